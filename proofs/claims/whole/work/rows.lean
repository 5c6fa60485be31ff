section
-- ===== PART A: goes FIRST, ahead of the names: the tables' words, and 'selects' of the private methods out of them =====
/-- a private method of a class that the tables say can be made, by its rows of tables_1 -/
def lw_okq (q : MethodName × Nat) : Prop := (q.1.cls ≠ "java/lang/invoke/MethodHandle" ∧ q.1.cls ≠ "java/lang/invoke/VarHandle") ∧ Cond.instantiable q.1.cls q.2 ∈ tables_1 ∧ Cond.privateMethod q.1 ∈ tables_1 ∧ Cond.instanceMethod q.1 ∈ tables_1
theorem lw_p0 : lw_okq (⟨"FolderRows", "beginAnew", "(I)V"⟩, 10) := ⟨⟨by decide +kernel, by decide +kernel⟩, List.mem_of_getElem? (i := 11) (by decide +kernel), List.mem_of_getElem? (i := 214) (by decide +kernel), List.mem_of_getElem? (i := 215) (by decide +kernel)⟩
theorem lw_p1 : lw_okq (⟨"FolderRows", "isMachine", "(I)Z"⟩, 10) := ⟨⟨by decide +kernel, by decide +kernel⟩, List.mem_of_getElem? (i := 11) (by decide +kernel), List.mem_of_getElem? (i := 269) (by decide +kernel), List.mem_of_getElem? (i := 270) (by decide +kernel)⟩
theorem lw_p2 : lw_okq (⟨"FolderRows", "growNow", "(I)V"⟩, 10) := ⟨⟨by decide +kernel, by decide +kernel⟩, List.mem_of_getElem? (i := 11) (by decide +kernel), List.mem_of_getElem? (i := 279) (by decide +kernel), List.mem_of_getElem? (i := 280) (by decide +kernel)⟩
theorem lw_p3 : lw_okq (⟨"FolderRows$Tree", "clear", "()V"⟩, 10) := ⟨⟨by decide +kernel, by decide +kernel⟩, List.mem_of_getElem? (i := 118) (by decide +kernel), List.mem_of_getElem? (i := 287) (by decide +kernel), List.mem_of_getElem? (i := 288) (by decide +kernel)⟩
theorem lw_p4 : lw_okq (⟨"FolderRows$Tree", "apply", "(LFolderRows$Change;II)V"⟩, 10) := ⟨⟨by decide +kernel, by decide +kernel⟩, List.mem_of_getElem? (i := 118) (by decide +kernel), List.mem_of_getElem? (i := 310) (by decide +kernel), List.mem_of_getElem? (i := 311) (by decide +kernel)⟩
theorem lw_p5 : lw_okq (⟨"FolderRows$Tree", "applyNew", "(LFolderRows$Change;I)V"⟩, 10) := ⟨⟨by decide +kernel, by decide +kernel⟩, List.mem_of_getElem? (i := 118) (by decide +kernel), List.mem_of_getElem? (i := 314) (by decide +kernel), List.mem_of_getElem? (i := 315) (by decide +kernel)⟩
theorem lw_p6 : lw_okq (⟨"FolderRows$Tree", "put", "(LFolderRows$Change;II)V"⟩, 10) := ⟨⟨by decide +kernel, by decide +kernel⟩, List.mem_of_getElem? (i := 118) (by decide +kernel), List.mem_of_getElem? (i := 322) (by decide +kernel), List.mem_of_getElem? (i := 323) (by decide +kernel)⟩
theorem lw_p7 : lw_okq (⟨"FolderRows$Tree", "applyGone", "(I)V"⟩, 10) := ⟨⟨by decide +kernel, by decide +kernel⟩, List.mem_of_getElem? (i := 118) (by decide +kernel), List.mem_of_getElem? (i := 334) (by decide +kernel), List.mem_of_getElem? (i := 335) (by decide +kernel)⟩
theorem lw_p8 : lw_okq (⟨"FolderRows$Tree", "applyWrite", "(LFolderRows$Change;I)V"⟩, 10) := ⟨⟨by decide +kernel, by decide +kernel⟩, List.mem_of_getElem? (i := 118) (by decide +kernel), List.mem_of_getElem? (i := 338) (by decide +kernel), List.mem_of_getElem? (i := 339) (by decide +kernel)⟩
theorem lw_p9 : lw_okq (⟨"FolderRows$Tree", "holdRow", "(ILFolderRows$Change;)V"⟩, 10) := ⟨⟨by decide +kernel, by decide +kernel⟩, List.mem_of_getElem? (i := 118) (by decide +kernel), List.mem_of_getElem? (i := 342) (by decide +kernel), List.mem_of_getElem? (i := 343) (by decide +kernel)⟩
theorem lw_p10 : lw_okq (⟨"FolderRows$Tree", "nameAll", "(I)V"⟩, 10) := ⟨⟨by decide +kernel, by decide +kernel⟩, List.mem_of_getElem? (i := 118) (by decide +kernel), List.mem_of_getElem? (i := 358) (by decide +kernel), List.mem_of_getElem? (i := 359) (by decide +kernel)⟩
theorem lw_p11 : lw_okq (⟨"FolderRows$Tree", "nextUnnamed", "(Z)I"⟩, 10) := ⟨⟨by decide +kernel, by decide +kernel⟩, List.mem_of_getElem? (i := 118) (by decide +kernel), List.mem_of_getElem? (i := 362) (by decide +kernel), List.mem_of_getElem? (i := 363) (by decide +kernel)⟩
theorem lw_p12 : lw_okq (⟨"FolderRows$Tree", "freeNameFor", "(I)I"⟩, 10) := ⟨⟨by decide +kernel, by decide +kernel⟩, List.mem_of_getElem? (i := 118) (by decide +kernel), List.mem_of_getElem? (i := 366) (by decide +kernel), List.mem_of_getElem? (i := 367) (by decide +kernel)⟩
theorem lw_p13 : lw_okq (⟨"FolderRows$Log", "putInOrder", "(LFolderRows$Change;)V"⟩, 8) := ⟨⟨by decide +kernel, by decide +kernel⟩, List.mem_of_getElem? (i := 19) (by decide +kernel), List.mem_of_getElem? (i := 394) (by decide +kernel), List.mem_of_getElem? (i := 395) (by decide +kernel)⟩
theorem lw_p14 : lw_okq (⟨"FolderRows$Log", "findLeftOut", "()V"⟩, 8) := ⟨⟨by decide +kernel, by decide +kernel⟩, List.mem_of_getElem? (i := 19) (by decide +kernel), List.mem_of_getElem? (i := 403) (by decide +kernel), List.mem_of_getElem? (i := 404) (by decide +kernel)⟩
theorem lw_p15 : lw_okq (⟨"FolderRows$Log", "standsOnLeftOut", "(LFolderRows$Change;)Z"⟩, 8) := ⟨⟨by decide +kernel, by decide +kernel⟩, List.mem_of_getElem? (i := 19) (by decide +kernel), List.mem_of_getElem? (i := 407) (by decide +kernel), List.mem_of_getElem? (i := 408) (by decide +kernel)⟩
def lw_privs_1 : List (MethodName × Nat) := [(⟨"FolderRows", "beginAnew", "(I)V"⟩, 10), (⟨"FolderRows", "isMachine", "(I)Z"⟩, 10), (⟨"FolderRows", "growNow", "(I)V"⟩, 10), (⟨"FolderRows$Tree", "clear", "()V"⟩, 10), (⟨"FolderRows$Tree", "apply", "(LFolderRows$Change;II)V"⟩, 10), (⟨"FolderRows$Tree", "applyNew", "(LFolderRows$Change;I)V"⟩, 10), (⟨"FolderRows$Tree", "put", "(LFolderRows$Change;II)V"⟩, 10), (⟨"FolderRows$Tree", "applyGone", "(I)V"⟩, 10), (⟨"FolderRows$Tree", "applyWrite", "(LFolderRows$Change;I)V"⟩, 10), (⟨"FolderRows$Tree", "holdRow", "(ILFolderRows$Change;)V"⟩, 10), (⟨"FolderRows$Tree", "nameAll", "(I)V"⟩, 10), (⟨"FolderRows$Tree", "nextUnnamed", "(Z)I"⟩, 10), (⟨"FolderRows$Tree", "freeNameFor", "(I)I"⟩, 10), (⟨"FolderRows$Log", "putInOrder", "(LFolderRows$Change;)V"⟩, 8), (⟨"FolderRows$Log", "findLeftOut", "()V"⟩, 8), (⟨"FolderRows$Log", "standsOnLeftOut", "(LFolderRows$Change;)Z"⟩, 8)]
theorem lw_r1 : ∀ q ∈ lw_privs_1, lw_okq q := List.forall_mem_cons.mpr ⟨lw_p0, List.forall_mem_cons.mpr ⟨lw_p1, List.forall_mem_cons.mpr ⟨lw_p2, List.forall_mem_cons.mpr ⟨lw_p3, List.forall_mem_cons.mpr ⟨lw_p4, List.forall_mem_cons.mpr ⟨lw_p5, List.forall_mem_cons.mpr ⟨lw_p6, List.forall_mem_cons.mpr ⟨lw_p7, List.forall_mem_cons.mpr ⟨lw_p8, List.forall_mem_cons.mpr ⟨lw_p9, List.forall_mem_cons.mpr ⟨lw_p10, List.forall_mem_cons.mpr ⟨lw_p11, List.forall_mem_cons.mpr ⟨lw_p12, List.forall_mem_cons.mpr ⟨lw_p13, List.forall_mem_cons.mpr ⟨lw_p14, List.forall_mem_cons.mpr ⟨lw_p15, fun _ h => absurd h List.not_mem_nil⟩⟩⟩⟩⟩⟩⟩⟩⟩⟩⟩⟩⟩⟩⟩⟩
theorem lw_p16 : lw_okq (⟨"FolderRows$PieceSet", "add", "(JI)V"⟩, 4) := ⟨⟨by decide +kernel, by decide +kernel⟩, List.mem_of_getElem? (i := 161) (by decide +kernel), List.mem_of_getElem? (i := 442) (by decide +kernel), List.mem_of_getElem? (i := 443) (by decide +kernel)⟩
theorem lw_p17 : lw_okq (⟨"FolderRows$PieceSet", "placeOf", "(JI)I"⟩, 4) := ⟨⟨by decide +kernel, by decide +kernel⟩, List.mem_of_getElem? (i := 161) (by decide +kernel), List.mem_of_getElem? (i := 450) (by decide +kernel), List.mem_of_getElem? (i := 451) (by decide +kernel)⟩
theorem lw_p18 : lw_okq (⟨"FolderRows", "hasRoomForWanted", "(I)Z"⟩, 10) := ⟨⟨by decide +kernel, by decide +kernel⟩, List.mem_of_getElem? (i := 11) (by decide +kernel), List.mem_of_getElem? (i := 454) (by decide +kernel), List.mem_of_getElem? (i := 455) (by decide +kernel)⟩
theorem lw_p19 : lw_okq (⟨"FolderRows", "isDay", "(I)Z"⟩, 10) := ⟨⟨by decide +kernel, by decide +kernel⟩, List.mem_of_getElem? (i := 11) (by decide +kernel), List.mem_of_getElem? (i := 492) (by decide +kernel), List.mem_of_getElem? (i := 493) (by decide +kernel)⟩
theorem lw_p20 : lw_okq (⟨"FolderRows", "bulkAsFile", "(I)I"⟩, 10) := ⟨⟨by decide +kernel, by decide +kernel⟩, List.mem_of_getElem? (i := 11) (by decide +kernel), List.mem_of_getElem? (i := 506) (by decide +kernel), List.mem_of_getElem? (i := 507) (by decide +kernel)⟩
theorem lw_p21 : lw_okq (⟨"FolderRows", "bulkAsThing", "(I)I"⟩, 10) := ⟨⟨by decide +kernel, by decide +kernel⟩, List.mem_of_getElem? (i := 11) (by decide +kernel), List.mem_of_getElem? (i := 511) (by decide +kernel), List.mem_of_getElem? (i := 512) (by decide +kernel)⟩
theorem lw_p22 : lw_okq (⟨"FolderRows", "bulkAsFolder", "(I)I"⟩, 10) := ⟨⟨by decide +kernel, by decide +kernel⟩, List.mem_of_getElem? (i := 11) (by decide +kernel), List.mem_of_getElem? (i := 519) (by decide +kernel), List.mem_of_getElem? (i := 520) (by decide +kernel)⟩
theorem lw_p23 : lw_okq (⟨"FolderRows", "bulkAsLink", "(I)I"⟩, 10) := ⟨⟨by decide +kernel, by decide +kernel⟩, List.mem_of_getElem? (i := 11) (by decide +kernel), List.mem_of_getElem? (i := 528) (by decide +kernel), List.mem_of_getElem? (i := 529) (by decide +kernel)⟩
theorem lw_p24 : lw_okq (⟨"FolderRows", "bulkAsHeld", "(I)I"⟩, 10) := ⟨⟨by decide +kernel, by decide +kernel⟩, List.mem_of_getElem? (i := 11) (by decide +kernel), List.mem_of_getElem? (i := 533) (by decide +kernel), List.mem_of_getElem? (i := 534) (by decide +kernel)⟩
theorem lw_p25 : lw_okq (⟨"FolderRows", "bulkAsClash", "(I)I"⟩, 10) := ⟨⟨by decide +kernel, by decide +kernel⟩, List.mem_of_getElem? (i := 11) (by decide +kernel), List.mem_of_getElem? (i := 538) (by decide +kernel), List.mem_of_getElem? (i := 539) (by decide +kernel)⟩
theorem lw_p26 : lw_okq (⟨"FolderRows", "wantPiecesOf", "(I)V"⟩, 10) := ⟨⟨by decide +kernel, by decide +kernel⟩, List.mem_of_getElem? (i := 11) (by decide +kernel), List.mem_of_getElem? (i := 595) (by decide +kernel), List.mem_of_getElem? (i := 596) (by decide +kernel)⟩
theorem lw_p27 : lw_okq (⟨"FolderRows", "addPiecesOf", "(ILFolderRows$PieceSet;)V"⟩, 10) := ⟨⟨by decide +kernel, by decide +kernel⟩, List.mem_of_getElem? (i := 11) (by decide +kernel), List.mem_of_getElem? (i := 599) (by decide +kernel), List.mem_of_getElem? (i := 600) (by decide +kernel)⟩
theorem lw_p28 : lw_okq (⟨"FolderRows$PieceSet", "removeAt", "(I)V"⟩, 4) := ⟨⟨by decide +kernel, by decide +kernel⟩, List.mem_of_getElem? (i := 161) (by decide +kernel), List.mem_of_getElem? (i := 607) (by decide +kernel), List.mem_of_getElem? (i := 608) (by decide +kernel)⟩
theorem lw_p29 : lw_okq (⟨"FolderRows", "othersHaveWanted", "(I)Z"⟩, 10) := ⟨⟨by decide +kernel, by decide +kernel⟩, List.mem_of_getElem? (i := 11) (by decide +kernel), List.mem_of_getElem? (i := 615) (by decide +kernel), List.mem_of_getElem? (i := 616) (by decide +kernel)⟩
theorem lw_p30 : lw_okq (⟨"FolderRows", "gatherPiecesOfOthers", "(I)V"⟩, 10) := ⟨⟨by decide +kernel, by decide +kernel⟩, List.mem_of_getElem? (i := 11) (by decide +kernel), List.mem_of_getElem? (i := 628) (by decide +kernel), List.mem_of_getElem? (i := 629) (by decide +kernel)⟩
theorem lw_p31 : lw_okq (⟨"FolderRowsModel", "begins", "()V"⟩, 36) := ⟨⟨by decide +kernel, by decide +kernel⟩, List.mem_of_getElem? (i := 702) (by decide +kernel), List.mem_of_getElem? (i := 708) (by decide +kernel), List.mem_of_getElem? (i := 709) (by decide +kernel)⟩
def lw_privs_2 : List (MethodName × Nat) := [(⟨"FolderRows$PieceSet", "add", "(JI)V"⟩, 4), (⟨"FolderRows$PieceSet", "placeOf", "(JI)I"⟩, 4), (⟨"FolderRows", "hasRoomForWanted", "(I)Z"⟩, 10), (⟨"FolderRows", "isDay", "(I)Z"⟩, 10), (⟨"FolderRows", "bulkAsFile", "(I)I"⟩, 10), (⟨"FolderRows", "bulkAsThing", "(I)I"⟩, 10), (⟨"FolderRows", "bulkAsFolder", "(I)I"⟩, 10), (⟨"FolderRows", "bulkAsLink", "(I)I"⟩, 10), (⟨"FolderRows", "bulkAsHeld", "(I)I"⟩, 10), (⟨"FolderRows", "bulkAsClash", "(I)I"⟩, 10), (⟨"FolderRows", "wantPiecesOf", "(I)V"⟩, 10), (⟨"FolderRows", "addPiecesOf", "(ILFolderRows$PieceSet;)V"⟩, 10), (⟨"FolderRows$PieceSet", "removeAt", "(I)V"⟩, 4), (⟨"FolderRows", "othersHaveWanted", "(I)Z"⟩, 10), (⟨"FolderRows", "gatherPiecesOfOthers", "(I)V"⟩, 10), (⟨"FolderRowsModel", "begins", "()V"⟩, 36)]
theorem lw_r2 : ∀ q ∈ lw_privs_2, lw_okq q := List.forall_mem_cons.mpr ⟨lw_p16, List.forall_mem_cons.mpr ⟨lw_p17, List.forall_mem_cons.mpr ⟨lw_p18, List.forall_mem_cons.mpr ⟨lw_p19, List.forall_mem_cons.mpr ⟨lw_p20, List.forall_mem_cons.mpr ⟨lw_p21, List.forall_mem_cons.mpr ⟨lw_p22, List.forall_mem_cons.mpr ⟨lw_p23, List.forall_mem_cons.mpr ⟨lw_p24, List.forall_mem_cons.mpr ⟨lw_p25, List.forall_mem_cons.mpr ⟨lw_p26, List.forall_mem_cons.mpr ⟨lw_p27, List.forall_mem_cons.mpr ⟨lw_p28, List.forall_mem_cons.mpr ⟨lw_p29, List.forall_mem_cons.mpr ⟨lw_p30, List.forall_mem_cons.mpr ⟨lw_p31, fun _ h => absurd h List.not_mem_nil⟩⟩⟩⟩⟩⟩⟩⟩⟩⟩⟩⟩⟩⟩⟩⟩
theorem lw_p32 : lw_okq (⟨"FolderRowsModel", "isMachine", "(I)Z"⟩, 36) := ⟨⟨by decide +kernel, by decide +kernel⟩, List.mem_of_getElem? (i := 702) (by decide +kernel), List.mem_of_getElem? (i := 836) (by decide +kernel), List.mem_of_getElem? (i := 837) (by decide +kernel)⟩
theorem lw_p33 : lw_okq (⟨"FolderRowsModel", "tellsNow", "(I)V"⟩, 36) := ⟨⟨by decide +kernel, by decide +kernel⟩, List.mem_of_getElem? (i := 702) (by decide +kernel), List.mem_of_getElem? (i := 843) (by decide +kernel), List.mem_of_getElem? (i := 844) (by decide +kernel)⟩
theorem lw_p34 : lw_okq (⟨"FolderRowsModel", "tells", "()V"⟩, 36) := ⟨⟨by decide +kernel, by decide +kernel⟩, List.mem_of_getElem? (i := 702) (by decide +kernel), List.mem_of_getElem? (i := 847) (by decide +kernel), List.mem_of_getElem? (i := 848) (by decide +kernel)⟩
theorem lw_p35 : lw_okq (⟨"FolderRowsModel", "leaves", "()V"⟩, 36) := ⟨⟨by decide +kernel, by decide +kernel⟩, List.mem_of_getElem? (i := 702) (by decide +kernel), List.mem_of_getElem? (i := 851) (by decide +kernel), List.mem_of_getElem? (i := 852) (by decide +kernel)⟩
theorem lw_p36 : lw_okq (⟨"FolderRowsModel", "restarts", "()V"⟩, 36) := ⟨⟨by decide +kernel, by decide +kernel⟩, List.mem_of_getElem? (i := 702) (by decide +kernel), List.mem_of_getElem? (i := 855) (by decide +kernel), List.mem_of_getElem? (i := 856) (by decide +kernel)⟩
theorem lw_p37 : lw_okq (⟨"FolderRowsModel", "first", "([I)I"⟩, 36) := ⟨⟨by decide +kernel, by decide +kernel⟩, List.mem_of_getElem? (i := 702) (by decide +kernel), List.mem_of_getElem? (i := 859) (by decide +kernel), List.mem_of_getElem? (i := 860) (by decide +kernel)⟩
theorem lw_p38 : lw_okq (⟨"FolderRowsModel", "does", "(III)V"⟩, 36) := ⟨⟨by decide +kernel, by decide +kernel⟩, List.mem_of_getElem? (i := 702) (by decide +kernel), List.mem_of_getElem? (i := 866) (by decide +kernel), List.mem_of_getElem? (i := 867) (by decide +kernel)⟩
theorem lw_p39 : lw_okq (⟨"FolderRowsModel", "isFolder", "(I)Z"⟩, 36) := ⟨⟨by decide +kernel, by decide +kernel⟩, List.mem_of_getElem? (i := 702) (by decide +kernel), List.mem_of_getElem? (i := 870) (by decide +kernel), List.mem_of_getElem? (i := 871) (by decide +kernel)⟩
theorem lw_p40 : lw_okq (⟨"FolderRowsModel", "puts", "(IIII)V"⟩, 36) := ⟨⟨by decide +kernel, by decide +kernel⟩, List.mem_of_getElem? (i := 702) (by decide +kernel), List.mem_of_getElem? (i := 874) (by decide +kernel), List.mem_of_getElem? (i := 875) (by decide +kernel)⟩
theorem lw_p41 : lw_okq (⟨"FolderRowsModel", "liesIn", "(II)Z"⟩, 36) := ⟨⟨by decide +kernel, by decide +kernel⟩, List.mem_of_getElem? (i := 702) (by decide +kernel), List.mem_of_getElem? (i := 878) (by decide +kernel), List.mem_of_getElem? (i := 879) (by decide +kernel)⟩
theorem lw_p42 : lw_okq (⟨"FolderRowsModel", "goes", "(I)V"⟩, 36) := ⟨⟨by decide +kernel, by decide +kernel⟩, List.mem_of_getElem? (i := 702) (by decide +kernel), List.mem_of_getElem? (i := 882) (by decide +kernel), List.mem_of_getElem? (i := 883) (by decide +kernel)⟩
theorem lw_p43 : lw_okq (⟨"FolderRowsModel", "writes", "(II)V"⟩, 36) := ⟨⟨by decide +kernel, by decide +kernel⟩, List.mem_of_getElem? (i := 702) (by decide +kernel), List.mem_of_getElem? (i := 886) (by decide +kernel), List.mem_of_getElem? (i := 887) (by decide +kernel)⟩
theorem lw_p44 : lw_okq (⟨"FolderRowsModel", "names", "()V"⟩, 36) := ⟨⟨by decide +kernel, by decide +kernel⟩, List.mem_of_getElem? (i := 702) (by decide +kernel), List.mem_of_getElem? (i := 890) (by decide +kernel), List.mem_of_getElem? (i := 891) (by decide +kernel)⟩
theorem lw_p45 : lw_okq (⟨"FolderRowsModel", "isAhead", "(II)Z"⟩, 36) := ⟨⟨by decide +kernel, by decide +kernel⟩, List.mem_of_getElem? (i := 702) (by decide +kernel), List.mem_of_getElem? (i := 894) (by decide +kernel), List.mem_of_getElem? (i := 895) (by decide +kernel)⟩
theorem lw_p46 : lw_okq (⟨"FolderRowsModel", "nextNameless", "()I"⟩, 36) := ⟨⟨by decide +kernel, by decide +kernel⟩, List.mem_of_getElem? (i := 702) (by decide +kernel), List.mem_of_getElem? (i := 898) (by decide +kernel), List.mem_of_getElem? (i := 899) (by decide +kernel)⟩
theorem lw_p47 : lw_okq (⟨"FolderRowsModel", "isTaken", "(II)Z"⟩, 36) := ⟨⟨by decide +kernel, by decide +kernel⟩, List.mem_of_getElem? (i := 702) (by decide +kernel), List.mem_of_getElem? (i := 902) (by decide +kernel), List.mem_of_getElem? (i := 903) (by decide +kernel)⟩
def lw_privs_3 : List (MethodName × Nat) := [(⟨"FolderRowsModel", "isMachine", "(I)Z"⟩, 36), (⟨"FolderRowsModel", "tellsNow", "(I)V"⟩, 36), (⟨"FolderRowsModel", "tells", "()V"⟩, 36), (⟨"FolderRowsModel", "leaves", "()V"⟩, 36), (⟨"FolderRowsModel", "restarts", "()V"⟩, 36), (⟨"FolderRowsModel", "first", "([I)I"⟩, 36), (⟨"FolderRowsModel", "does", "(III)V"⟩, 36), (⟨"FolderRowsModel", "isFolder", "(I)Z"⟩, 36), (⟨"FolderRowsModel", "puts", "(IIII)V"⟩, 36), (⟨"FolderRowsModel", "liesIn", "(II)Z"⟩, 36), (⟨"FolderRowsModel", "goes", "(I)V"⟩, 36), (⟨"FolderRowsModel", "writes", "(II)V"⟩, 36), (⟨"FolderRowsModel", "names", "()V"⟩, 36), (⟨"FolderRowsModel", "isAhead", "(II)Z"⟩, 36), (⟨"FolderRowsModel", "nextNameless", "()I"⟩, 36), (⟨"FolderRowsModel", "isTaken", "(II)Z"⟩, 36)]
theorem lw_r3 : ∀ q ∈ lw_privs_3, lw_okq q := List.forall_mem_cons.mpr ⟨lw_p32, List.forall_mem_cons.mpr ⟨lw_p33, List.forall_mem_cons.mpr ⟨lw_p34, List.forall_mem_cons.mpr ⟨lw_p35, List.forall_mem_cons.mpr ⟨lw_p36, List.forall_mem_cons.mpr ⟨lw_p37, List.forall_mem_cons.mpr ⟨lw_p38, List.forall_mem_cons.mpr ⟨lw_p39, List.forall_mem_cons.mpr ⟨lw_p40, List.forall_mem_cons.mpr ⟨lw_p41, List.forall_mem_cons.mpr ⟨lw_p42, List.forall_mem_cons.mpr ⟨lw_p43, List.forall_mem_cons.mpr ⟨lw_p44, List.forall_mem_cons.mpr ⟨lw_p45, List.forall_mem_cons.mpr ⟨lw_p46, List.forall_mem_cons.mpr ⟨lw_p47, fun _ h => absurd h List.not_mem_nil⟩⟩⟩⟩⟩⟩⟩⟩⟩⟩⟩⟩⟩⟩⟩⟩
theorem lw_p48 : lw_okq (⟨"FolderRowsModel", "isNew", "(II)Z"⟩, 36) := ⟨⟨by decide +kernel, by decide +kernel⟩, List.mem_of_getElem? (i := 702) (by decide +kernel), List.mem_of_getElem? (i := 906) (by decide +kernel), List.mem_of_getElem? (i := 907) (by decide +kernel)⟩
theorem lw_p49 : lw_okq (⟨"FolderRowsModel", "makes", "(IIIIII)I"⟩, 36) := ⟨⟨by decide +kernel, by decide +kernel⟩, List.mem_of_getElem? (i := 702) (by decide +kernel), List.mem_of_getElem? (i := 910) (by decide +kernel), List.mem_of_getElem? (i := 911) (by decide +kernel)⟩
theorem lw_p50 : lw_okq (⟨"FolderRowsModel", "cuts", "(JI)V"⟩, 36) := ⟨⟨by decide +kernel, by decide +kernel⟩, List.mem_of_getElem? (i := 702) (by decide +kernel), List.mem_of_getElem? (i := 926) (by decide +kernel), List.mem_of_getElem? (i := 927) (by decide +kernel)⟩
theorem lw_p51 : lw_okq (⟨"FolderRowsModel", "isFile", "(I)Z"⟩, 36) := ⟨⟨by decide +kernel, by decide +kernel⟩, List.mem_of_getElem? (i := 702) (by decide +kernel), List.mem_of_getElem? (i := 935) (by decide +kernel), List.mem_of_getElem? (i := 936) (by decide +kernel)⟩
theorem lw_p52 : lw_okq (⟨"FolderRowsModel", "bytesAt", "(I)I"⟩, 36) := ⟨⟨by decide +kernel, by decide +kernel⟩, List.mem_of_getElem? (i := 702) (by decide +kernel), List.mem_of_getElem? (i := 939) (by decide +kernel), List.mem_of_getElem? (i := 940) (by decide +kernel)⟩
theorem lw_p53 : lw_okq (⟨"FolderRowsModel", "lacking", "(I)I"⟩, 36) := ⟨⟨by decide +kernel, by decide +kernel⟩, List.mem_of_getElem? (i := 702) (by decide +kernel), List.mem_of_getElem? (i := 943) (by decide +kernel), List.mem_of_getElem? (i := 944) (by decide +kernel)⟩
theorem lw_p54 : lw_okq (⟨"FolderRowsModel", "pieceAt", "(IJI)I"⟩, 36) := ⟨⟨by decide +kernel, by decide +kernel⟩, List.mem_of_getElem? (i := 702) (by decide +kernel), List.mem_of_getElem? (i := 947) (by decide +kernel), List.mem_of_getElem? (i := 948) (by decide +kernel)⟩
theorem lw_p55 : lw_okq (⟨"FolderRowsModel", "takes", "(I)V"⟩, 36) := ⟨⟨by decide +kernel, by decide +kernel⟩, List.mem_of_getElem? (i := 702) (by decide +kernel), List.mem_of_getElem? (i := 951) (by decide +kernel), List.mem_of_getElem? (i := 952) (by decide +kernel)⟩
theorem lw_p56 : lw_okq (⟨"FolderRowsModel", "isDay", "(I)Z"⟩, 36) := ⟨⟨by decide +kernel, by decide +kernel⟩, List.mem_of_getElem? (i := 702) (by decide +kernel), List.mem_of_getElem? (i := 971) (by decide +kernel), List.mem_of_getElem? (i := 972) (by decide +kernel)⟩
theorem lw_p57 : lw_okq (⟨"FolderRowsModel", "tellsOf", "(II)V"⟩, 36) := ⟨⟨by decide +kernel, by decide +kernel⟩, List.mem_of_getElem? (i := 702) (by decide +kernel), List.mem_of_getElem? (i := 975) (by decide +kernel), List.mem_of_getElem? (i := 976) (by decide +kernel)⟩
theorem lw_p58 : lw_okq (⟨"FolderRowsModel", "sizeOf", "(I)I"⟩, 36) := ⟨⟨by decide +kernel, by decide +kernel⟩, List.mem_of_getElem? (i := 702) (by decide +kernel), List.mem_of_getElem? (i := 983) (by decide +kernel), List.mem_of_getElem? (i := 984) (by decide +kernel)⟩
theorem lw_p59 : lw_okq (⟨"FolderRowsModel", "held", "(I)I"⟩, 36) := ⟨⟨by decide +kernel, by decide +kernel⟩, List.mem_of_getElem? (i := 702) (by decide +kernel), List.mem_of_getElem? (i := 991) (by decide +kernel), List.mem_of_getElem? (i := 992) (by decide +kernel)⟩
theorem lw_p60 : lw_okq (⟨"FolderRowsModel", "inside", "(I)I"⟩, 36) := ⟨⟨by decide +kernel, by decide +kernel⟩, List.mem_of_getElem? (i := 702) (by decide +kernel), List.mem_of_getElem? (i := 1000) (by decide +kernel), List.mem_of_getElem? (i := 1001) (by decide +kernel)⟩
theorem lw_p61 : lw_okq (⟨"FolderRowsModel", "left", "([II)I"⟩, 36) := ⟨⟨by decide +kernel, by decide +kernel⟩, List.mem_of_getElem? (i := 702) (by decide +kernel), List.mem_of_getElem? (i := 1035) (by decide +kernel), List.mem_of_getElem? (i := 1036) (by decide +kernel)⟩
theorem lw_p62 : lw_okq (⟨"FolderRowsModel", "cutsFile", "(I)V"⟩, 36) := ⟨⟨by decide +kernel, by decide +kernel⟩, List.mem_of_getElem? (i := 702) (by decide +kernel), List.mem_of_getElem? (i := 1047) (by decide +kernel), List.mem_of_getElem? (i := 1048) (by decide +kernel)⟩
theorem lw_p63 : lw_okq (⟨"FolderRowsModel", "isElsewhere", "(IJI)Z"⟩, 36) := ⟨⟨by decide +kernel, by decide +kernel⟩, List.mem_of_getElem? (i := 702) (by decide +kernel), List.mem_of_getElem? (i := 1055) (by decide +kernel), List.mem_of_getElem? (i := 1056) (by decide +kernel)⟩
def lw_privs_4 : List (MethodName × Nat) := [(⟨"FolderRowsModel", "isNew", "(II)Z"⟩, 36), (⟨"FolderRowsModel", "makes", "(IIIIII)I"⟩, 36), (⟨"FolderRowsModel", "cuts", "(JI)V"⟩, 36), (⟨"FolderRowsModel", "isFile", "(I)Z"⟩, 36), (⟨"FolderRowsModel", "bytesAt", "(I)I"⟩, 36), (⟨"FolderRowsModel", "lacking", "(I)I"⟩, 36), (⟨"FolderRowsModel", "pieceAt", "(IJI)I"⟩, 36), (⟨"FolderRowsModel", "takes", "(I)V"⟩, 36), (⟨"FolderRowsModel", "isDay", "(I)Z"⟩, 36), (⟨"FolderRowsModel", "tellsOf", "(II)V"⟩, 36), (⟨"FolderRowsModel", "sizeOf", "(I)I"⟩, 36), (⟨"FolderRowsModel", "held", "(I)I"⟩, 36), (⟨"FolderRowsModel", "inside", "(I)I"⟩, 36), (⟨"FolderRowsModel", "left", "([II)I"⟩, 36), (⟨"FolderRowsModel", "cutsFile", "(I)V"⟩, 36), (⟨"FolderRowsModel", "isElsewhere", "(IJI)Z"⟩, 36)]
theorem lw_r4 : ∀ q ∈ lw_privs_4, lw_okq q := List.forall_mem_cons.mpr ⟨lw_p48, List.forall_mem_cons.mpr ⟨lw_p49, List.forall_mem_cons.mpr ⟨lw_p50, List.forall_mem_cons.mpr ⟨lw_p51, List.forall_mem_cons.mpr ⟨lw_p52, List.forall_mem_cons.mpr ⟨lw_p53, List.forall_mem_cons.mpr ⟨lw_p54, List.forall_mem_cons.mpr ⟨lw_p55, List.forall_mem_cons.mpr ⟨lw_p56, List.forall_mem_cons.mpr ⟨lw_p57, List.forall_mem_cons.mpr ⟨lw_p58, List.forall_mem_cons.mpr ⟨lw_p59, List.forall_mem_cons.mpr ⟨lw_p60, List.forall_mem_cons.mpr ⟨lw_p61, List.forall_mem_cons.mpr ⟨lw_p62, List.forall_mem_cons.mpr ⟨lw_p63, fun _ h => absurd h List.not_mem_nil⟩⟩⟩⟩⟩⟩⟩⟩⟩⟩⟩⟩⟩⟩⟩⟩
def lw_privs : List (MethodName × Nat) := lw_privs_1 ++ (lw_privs_2 ++ (lw_privs_3 ++ (lw_privs_4)))
def lw_tbl : List Cond := k2_sels lw_privs ++ tables_1
theorem lw_privs_ok : ∀ q ∈ lw_privs, lw_okq q := by
  show ∀ q ∈ lw_privs_1 ++ (lw_privs_2 ++ (lw_privs_3 ++ (lw_privs_4))), lw_okq q
  exact List.forall_mem_append.mpr ⟨lw_r1, List.forall_mem_append.mpr ⟨lw_r2, List.forall_mem_append.mpr ⟨lw_r3, lw_r4⟩⟩⟩
end
section
def RX0 : String := "FolderRows$Change"
def TX0 : u_T := fun k => match k with
  | 0 => ("FolderRows$Change", "ground", "[I", true)
  | 1 => ("FolderRows$Change", "owner", "I", false)
  | 2 => ("FolderRows$Change", "number", "I", false)
  | 3 => ("FolderRows$Change", "act", "I", false)
  | 4 => ("FolderRows$Change", "subject", "I", false)
  | 5 => ("FolderRows$Change", "height", "I", false)
  | 6 => ("FolderRows$Change", "madeOn", "I", false)
  | 7 => ("FolderRows$Change", "kind", "I", false)
  | 8 => ("FolderRows$Change", "folder", "I", false)
  | 9 => ("FolderRows$Change", "label", "I", false)
  | 10 => ("FolderRows$Change", "length", "I", false)
  | _ => ("FolderRows$Change", "content", "J", false)
def tyX0 : Nat → FieldType := fun k => match k with
  | 0 => .array .int
  | 1 => .int
  | 2 => .int
  | 3 => .int
  | 4 => .int
  | 5 => .int
  | 6 => .int
  | 7 => .int
  | 8 => .int
  | 9 => .int
  | 10 => .int
  | _ => .long
abbrev wsX00 : List Cond := u_ws RX0 TX0 12
theorem nmX0 : ∀ a, a < 12 → ∀ b, b < 12 → a ≠ b → (TX0 a).2.1 ≠ (TX0 b).2.1 := by decide +kernel
theorem tyX0_ok : ∀ k, k < 12 → parseFieldDescriptor (TX0 k).2.2.1 = some (tyX0 k) := by decide +kernel
abbrev cX0_init : ByteArray := prog_2_method_1_code
def yX0_init : MethodName := ⟨RX0, "<init>", "()V"⟩
abbrev cX0_slot : ByteArray := prog_2_method_2_code
def yX0_slot : MethodName := ⟨RX0, "slot", "()I"⟩
abbrev cX0_groundSize : ByteArray := prog_2_method_3_code
def yX0_groundSize : MethodName := ⟨RX0, "groundSize", "()I"⟩
abbrev cX0_standsOn : ByteArray := prog_2_method_4_code
def yX0_standsOn : MethodName := ⟨RX0, "standsOn", "(LFolderRows$Change;)Z"⟩
abbrev cX0_isAheadOf : ByteArray := prog_2_method_5_code
def yX0_isAheadOf : MethodName := ⟨RX0, "isAheadOf", "(LFolderRows$Change;)Z"⟩
def RX1 : String := "FolderRows$Log"
def TX1 : u_T := fun k => match k with
  | 0 => ("FolderRows$Log", "changes", "[LFolderRows$Change;", true)
  | 1 => ("FolderRows$Log", "order", "[I", true)
  | 2 => ("FolderRows$Log", "madeCount", "[I", true)
  | 3 => ("FolderRows$Log", "known", "[I", true)
  | 4 => ("FolderRows$Log", "apartFrom", "[I", true)
  | 5 => ("FolderRows$Log", "leftFrom", "[I", true)
  | 6 => ("FolderRows$Log", "total", "I", false)
  | _ => ("FolderRows$Log", "today", "I", false)
def tyX1 : Nat → FieldType := fun k => match k with
  | 0 => .array (.object "FolderRows$Change")
  | 1 => .array .int
  | 2 => .array .int
  | 3 => .array .int
  | 4 => .array .int
  | 5 => .array .int
  | 6 => .int
  | _ => .int
abbrev wsX10 : List Cond := u_ws RX1 TX1 8
theorem nmX1 : ∀ a, a < 8 → ∀ b, b < 8 → a ≠ b → (TX1 a).2.1 ≠ (TX1 b).2.1 := by decide +kernel
theorem tyX1_ok : ∀ k, k < 8 → parseFieldDescriptor (TX1 k).2.2.1 = some (tyX1 k) := by decide +kernel
abbrev cX1_init : ByteArray := prog_3_method_1_code
def yX1_init : MethodName := ⟨RX1, "<init>", "()V"⟩
abbrev cX1_empty : ByteArray := prog_3_method_2_code
def yX1_empty : MethodName := ⟨RX1, "empty", "()V"⟩
abbrev cX1_placeOf : ByteArray := prog_3_method_3_code
def yX1_placeOf : MethodName := ⟨RX1, "placeOf", "(III)I"⟩
abbrev cX1_knownOf : ByteArray := prog_3_method_4_code
def yX1_knownOf : MethodName := ⟨RX1, "knownOf", "(III)I"⟩
abbrev cX1_knows : ByteArray := prog_3_method_5_code
def yX1_knows : MethodName := ⟨RX1, "knows", "(IILFolderRows$Change;)Z"⟩
abbrev cX1_changeOf : ByteArray := prog_3_method_6_code
def yX1_changeOf : MethodName := ⟨RX1, "changeOf", "(II)LFolderRows$Change;"⟩
abbrev cX1_inOrder : ByteArray := prog_3_method_7_code
def yX1_inOrder : MethodName := ⟨RX1, "inOrder", "(I)LFolderRows$Change;"⟩
abbrev cX1_isFull : ByteArray := prog_3_method_8_code
def yX1_isFull : MethodName := ⟨RX1, "isFull", "(I)Z"⟩
abbrev cX1_append : ByteArray := prog_3_method_9_code
def yX1_append : MethodName := ⟨RX1, "append", "(III)LFolderRows$Change;"⟩
abbrev cX1_putInOrder : ByteArray := prog_3_method_10_code
def yX1_putInOrder : MethodName := ⟨RX1, "putInOrder", "(LFolderRows$Change;)V"⟩
abbrev cX1_leastUnmade : ByteArray := prog_3_method_11_code
def yX1_leastUnmade : MethodName := ⟨RX1, "leastUnmade", "(I)I"⟩
abbrev cX1_passOn : ByteArray := prog_3_method_12_code
def yX1_passOn : MethodName := ⟨RX1, "passOn", "(III)I"⟩
abbrev cX1_nextDay : ByteArray := prog_3_method_13_code
def yX1_nextDay : MethodName := ⟨RX1, "nextDay", "()V"⟩
abbrev cX1_setApart : ByteArray := prog_3_method_14_code
def yX1_setApart : MethodName := ⟨RX1, "setApart", "(II)I"⟩
abbrev cX1_findLeftOut : ByteArray := prog_3_method_15_code
def yX1_findLeftOut : MethodName := ⟨RX1, "findLeftOut", "()V"⟩
abbrev cX1_standsOnLeftOut : ByteArray := prog_3_method_16_code
def yX1_standsOnLeftOut : MethodName := ⟨RX1, "standsOnLeftOut", "(LFolderRows$Change;)Z"⟩
abbrev cX1_isLeftOut : ByteArray := prog_3_method_17_code
def yX1_isLeftOut : MethodName := ⟨RX1, "isLeftOut", "(LFolderRows$Change;)Z"⟩
abbrev cX1_leftOutInAll : ByteArray := prog_3_method_18_code
def yX1_leftOutInAll : MethodName := ⟨RX1, "leftOutInAll", "()I"⟩
abbrev cX1_madeOnDay : ByteArray := prog_3_method_19_code
def yX1_madeOnDay : MethodName := ⟨RX1, "madeOnDay", "(II)I"⟩
def RX2 : String := "FolderRows$PieceSet"
def TX2 : u_T := fun k => match k with
  | 0 => ("FolderRows$PieceSet", "content", "[J", true)
  | 1 => ("FolderRows$PieceSet", "length", "[I", true)
  | 2 => ("FolderRows$PieceSet", "number", "I", false)
  | _ => ("FolderRows$PieceSet", "byteCount", "I", false)
def tyX2 : Nat → FieldType := fun k => match k with
  | 0 => .array .long
  | 1 => .array .int
  | 2 => .int
  | _ => .int
abbrev wsX20 : List Cond := u_ws RX2 TX2 4
theorem nmX2 : ∀ a, a < 4 → ∀ b, b < 4 → a ≠ b → (TX2 a).2.1 ≠ (TX2 b).2.1 := by decide +kernel
theorem tyX2_ok : ∀ k, k < 4 → parseFieldDescriptor (TX2 k).2.2.1 = some (tyX2 k) := by decide +kernel
abbrev cX2_init : ByteArray := prog_4_method_1_code
def yX2_init : MethodName := ⟨RX2, "<init>", "(I)V"⟩
abbrev cX2_empty : ByteArray := prog_4_method_2_code
def yX2_empty : MethodName := ⟨RX2, "empty", "()V"⟩
abbrev cX2_placeOf : ByteArray := prog_4_method_3_code
def yX2_placeOf : MethodName := ⟨RX2, "placeOf", "(JI)I"⟩
abbrev cX2_has : ByteArray := prog_4_method_4_code
def yX2_has : MethodName := ⟨RX2, "has", "(JI)Z"⟩
abbrev cX2_add : ByteArray := prog_4_method_5_code
def yX2_add : MethodName := ⟨RX2, "add", "(JI)V"⟩
abbrev cX2_removeAt : ByteArray := prog_4_method_6_code
def yX2_removeAt : MethodName := ⟨RX2, "removeAt", "(I)V"⟩
abbrev cX2_addCutOf : ByteArray := prog_4_method_7_code
def yX2_addCutOf : MethodName := ⟨RX2, "addCutOf", "(JI)V"⟩
abbrev cX2_addAll : ByteArray := prog_4_method_8_code
def yX2_addAll : MethodName := ⟨RX2, "addAll", "(LFolderRows$PieceSet;)V"⟩
abbrev cX2_removeAll : ByteArray := prog_4_method_9_code
def yX2_removeAll : MethodName := ⟨RX2, "removeAll", "(LFolderRows$PieceSet;)V"⟩
abbrev cX2_keepOnly : ByteArray := prog_4_method_10_code
def yX2_keepOnly : MethodName := ⟨RX2, "keepOnly", "(LFolderRows$PieceSet;)V"⟩
abbrev cX2_bytesNotIn : ByteArray := prog_4_method_11_code
def yX2_bytesNotIn : MethodName := ⟨RX2, "bytesNotIn", "(LFolderRows$PieceSet;)I"⟩
def RX3 : String := "FolderRows$ShareList"
def TX3 : u_T := fun k => match k with
  | 0 => ("FolderRows$ShareList", "reader", "[I", true)
  | 1 => ("FolderRows$ShareList", "subject", "[I", true)
  | 2 => ("FolderRows$ShareList", "begunOn", "[I", true)
  | 3 => ("FolderRows$ShareList", "endedOn", "[I", true)
  | _ => ("FolderRows$ShareList", "number", "I", false)
def tyX3 : Nat → FieldType := fun k => match k with
  | 0 => .array .int
  | 1 => .array .int
  | 2 => .array .int
  | 3 => .array .int
  | _ => .int
abbrev wsX30 : List Cond := u_ws RX3 TX3 5
theorem nmX3 : ∀ a, a < 5 → ∀ b, b < 5 → a ≠ b → (TX3 a).2.1 ≠ (TX3 b).2.1 := by decide +kernel
theorem tyX3_ok : ∀ k, k < 5 → parseFieldDescriptor (TX3 k).2.2.1 = some (tyX3 k) := by decide +kernel
abbrev cX3_init : ByteArray := prog_5_method_1_code
def yX3_init : MethodName := ⟨RX3, "<init>", "()V"⟩
abbrev cX3_begin : ByteArray := prog_5_method_2_code
def yX3_begin : MethodName := ⟨RX3, "begin", "(III)I"⟩
abbrev cX3_holds : ByteArray := prog_5_method_3_code
def yX3_holds : MethodName := ⟨RX3, "holds", "(III)Z"⟩
abbrev cX3_holding : ByteArray := prog_5_method_4_code
def yX3_holding : MethodName := ⟨RX3, "holding", "()I"⟩
def RX4 : String := "FolderRows$Tree"
def TX4 : u_T := fun k => match k with
  | 0 => ("FolderRows$Tree", "log", "LFolderRows$Log;", true)
  | 1 => ("FolderRows$Tree", "made", "[Z", true)
  | 2 => ("FolderRows$Tree", "there", "[Z", true)
  | 3 => ("FolderRows$Tree", "kind", "[I", true)
  | 4 => ("FolderRows$Tree", "folder", "[I", true)
  | 5 => ("FolderRows$Tree", "wish", "[I", true)
  | 6 => ("FolderRows$Tree", "label", "[I", true)
  | 7 => ("FolderRows$Tree", "placedAt", "[I", true)
  | 8 => ("FolderRows$Tree", "rowCount", "[I", true)
  | _ => ("FolderRows$Tree", "rows", "[I", true)
def tyX4 : Nat → FieldType := fun k => match k with
  | 0 => .object "FolderRows$Log"
  | 1 => .array .boolean
  | 2 => .array .boolean
  | 3 => .array .int
  | 4 => .array .int
  | 5 => .array .int
  | 6 => .array .int
  | 7 => .array .int
  | 8 => .array .int
  | _ => .array .int
abbrev wsX40 : List Cond := u_ws RX4 TX4 10
theorem nmX4 : ∀ a, a < 10 → ∀ b, b < 10 → a ≠ b → (TX4 a).2.1 ≠ (TX4 b).2.1 := by decide +kernel
theorem tyX4_ok : ∀ k, k < 10 → parseFieldDescriptor (TX4 k).2.2.1 = some (tyX4 k) := by decide +kernel
abbrev cX4_init : ByteArray := prog_6_method_1_code
def yX4_init : MethodName := ⟨RX4, "<init>", "(LFolderRows$Log;)V"⟩
abbrev cX4_grow : ByteArray := prog_6_method_2_code
def yX4_grow : MethodName := ⟨RX4, "grow", "(III)V"⟩
abbrev cX4_clear : ByteArray := prog_6_method_3_code
def yX4_clear : MethodName := ⟨RX4, "clear", "()V"⟩
abbrev cX4_apply : ByteArray := prog_6_method_4_code
def yX4_apply : MethodName := ⟨RX4, "apply", "(LFolderRows$Change;II)V"⟩
abbrev cX4_applyNew : ByteArray := prog_6_method_5_code
def yX4_applyNew : MethodName := ⟨RX4, "applyNew", "(LFolderRows$Change;I)V"⟩
abbrev cX4_put : ByteArray := prog_6_method_6_code
def yX4_put : MethodName := ⟨RX4, "put", "(LFolderRows$Change;II)V"⟩
abbrev cX4_applyGone : ByteArray := prog_6_method_7_code
def yX4_applyGone : MethodName := ⟨RX4, "applyGone", "(I)V"⟩
abbrev cX4_applyWrite : ByteArray := prog_6_method_8_code
def yX4_applyWrite : MethodName := ⟨RX4, "applyWrite", "(LFolderRows$Change;I)V"⟩
abbrev cX4_holdRow : ByteArray := prog_6_method_9_code
def yX4_holdRow : MethodName := ⟨RX4, "holdRow", "(ILFolderRows$Change;)V"⟩
abbrev cX4_nameAll : ByteArray := prog_6_method_10_code
def yX4_nameAll : MethodName := ⟨RX4, "nameAll", "(I)V"⟩
abbrev cX4_nextUnnamed : ByteArray := prog_6_method_11_code
def yX4_nextUnnamed : MethodName := ⟨RX4, "nextUnnamed", "(Z)I"⟩
abbrev cX4_freeNameFor : ByteArray := prog_6_method_12_code
def yX4_freeNameFor : MethodName := ⟨RX4, "freeNameFor", "(I)I"⟩
abbrev cX4_thingNamed : ByteArray := prog_6_method_13_code
def yX4_thingNamed : MethodName := ⟨RX4, "thingNamed", "(II)I"⟩
abbrev cX4_isThere : ByteArray := prog_6_method_14_code
def yX4_isThere : MethodName := ⟨RX4, "isThere", "(I)Z"⟩
abbrev cX4_isFile : ByteArray := prog_6_method_15_code
def yX4_isFile : MethodName := ⟨RX4, "isFile", "(I)Z"⟩
abbrev cX4_isFolder : ByteArray := prog_6_method_16_code
def yX4_isFolder : MethodName := ⟨RX4, "isFolder", "(I)Z"⟩
abbrev cX4_mayMove : ByteArray := prog_6_method_17_code
def yX4_mayMove : MethodName := ⟨RX4, "mayMove", "(II)Z"⟩
abbrev cX4_isWithin : ByteArray := prog_6_method_18_code
def yX4_isWithin : MethodName := ⟨RX4, "isWithin", "(II)Z"⟩
abbrev cX4_rowOf : ByteArray := prog_6_method_19_code
def yX4_rowOf : MethodName := ⟨RX4, "rowOf", "(II)LFolderRows$Change;"⟩
abbrev cX4_childCount : ByteArray := prog_6_method_20_code
def yX4_childCount : MethodName := ⟨RX4, "childCount", "(I)I"⟩
abbrev cX4_byteCount : ByteArray := prog_6_method_21_code
def yX4_byteCount : MethodName := ⟨RX4, "byteCount", "(I)I"⟩
abbrev cX4_byteTotal : ByteArray := prog_6_method_22_code
def yX4_byteTotal : MethodName := ⟨RX4, "byteTotal", "(I)I"⟩
def RX5 : String := "FolderRows"
def TX5 : u_T := fun k => match k with
  | 0 => ("FolderRows", "log", "LFolderRows$Log;", true)
  | 1 => ("FolderRows", "tree", "LFolderRows$Tree;", true)
  | 2 => ("FolderRows", "kept", "[LFolderRows$PieceSet;", true)
  | 3 => ("FolderRows", "wanted", "LFolderRows$PieceSet;", true)
  | 4 => ("FolderRows", "elsewhere", "LFolderRows$PieceSet;", true)
  | 5 => ("FolderRows", "roomOf", "[I", true)
  | 6 => ("FolderRows", "shareList", "LFolderRows$ShareList;", true)
  | 7 => ("FolderRows", "machineCount", "I", false)
  | 8 => ("FolderRows", "ruleBits", "I", false)
  | _ => ("FolderRows", "tally", "J", false)
def tyX5 : Nat → FieldType := fun k => match k with
  | 0 => .object "FolderRows$Log"
  | 1 => .object "FolderRows$Tree"
  | 2 => .array (.object "FolderRows$PieceSet")
  | 3 => .object "FolderRows$PieceSet"
  | 4 => .object "FolderRows$PieceSet"
  | 5 => .array .int
  | 6 => .object "FolderRows$ShareList"
  | 7 => .int
  | 8 => .int
  | _ => .long
abbrev wsX50 : List Cond := u_ws RX5 TX5 10
theorem nmX5 : ∀ a, a < 10 → ∀ b, b < 10 → a ≠ b → (TX5 a).2.1 ≠ (TX5 b).2.1 := by decide +kernel
theorem tyX5_ok : ∀ k, k < 10 → parseFieldDescriptor (TX5 k).2.2.1 = some (tyX5 k) := by decide +kernel
abbrev cX5_init : ByteArray := prog_1_method_1_code
def yX5_init : MethodName := ⟨RX5, "<init>", "()V"⟩
abbrev cX5_machines : ByteArray := prog_1_method_2_code
def yX5_machines : MethodName := ⟨RX5, "machines", "(I)I"⟩
abbrev cX5_rules : ByteArray := prog_1_method_3_code
def yX5_rules : MethodName := ⟨RX5, "rules", "(I)I"⟩
abbrev cX5_make : ByteArray := prog_1_method_4_code
def yX5_make : MethodName := ⟨RX5, "make", "(IIII)I"⟩
abbrev cX5_move : ByteArray := prog_1_method_5_code
def yX5_move : MethodName := ⟨RX5, "move", "(IIII)I"⟩
abbrev cX5_gone : ByteArray := prog_1_method_6_code
def yX5_gone : MethodName := ⟨RX5, "gone", "(II)I"⟩
abbrev cX5_write : ByteArray := prog_1_method_7_code
def yX5_write : MethodName := ⟨RX5, "write", "(IIJI)I"⟩
abbrev cX5_send : ByteArray := prog_1_method_8_code
def yX5_send : MethodName := ⟨RX5, "send", "(II)I"⟩
abbrev cX5_sendSome : ByteArray := prog_1_method_9_code
def yX5_sendSome : MethodName := ⟨RX5, "sendSome", "(III)I"⟩
abbrev cX5_change : ByteArray := prog_1_method_10_code
def yX5_change : MethodName := ⟨RX5, "change", "(III)I"⟩
abbrev cX5_thing : ByteArray := prog_1_method_11_code
def yX5_thing : MethodName := ⟨RX5, "thing", "(IIII)I"⟩
abbrev cX5_bytes : ByteArray := prog_1_method_12_code
def yX5_bytes : MethodName := ⟨RX5, "bytes", "(IIII)I"⟩
abbrev cX5_bulk : ByteArray := prog_1_method_13_code
def yX5_bulk : MethodName := ⟨RX5, "bulk", "(III)I"⟩
abbrev cX5_things : ByteArray := prog_1_method_14_code
def yX5_things : MethodName := ⟨RX5, "things", "(II)I"⟩
abbrev cX5_find : ByteArray := prog_1_method_15_code
def yX5_find : MethodName := ⟨RX5, "find", "(III)I"⟩
abbrev cX5_sum : ByteArray := prog_1_method_16_code
def yX5_sum : MethodName := ⟨RX5, "sum", "(II)I"⟩
abbrev cX5_differ : ByteArray := prog_1_method_17_code
def yX5_differ : MethodName := ⟨RX5, "differ", "(II)I"⟩
abbrev cX5_apart : ByteArray := prog_1_method_18_code
def yX5_apart : MethodName := ⟨RX5, "apart", "(II)I"⟩
abbrev cX5_let : ByteArray := prog_1_method_19_code
def yX5_let : MethodName := ⟨RX5, "let", "(I)I"⟩
abbrev cX5_taken : ByteArray := prog_1_method_20_code
def yX5_taken : MethodName := ⟨RX5, "taken", "(I)I"⟩
abbrev cX5_room : ByteArray := prog_1_method_21_code
def yX5_room : MethodName := ⟨RX5, "room", "(II)I"⟩
abbrev cX5_pieces : ByteArray := prog_1_method_22_code
def yX5_pieces : MethodName := ⟨RX5, "pieces", "(III)I"⟩
abbrev cX5_fetch : ByteArray := prog_1_method_23_code
def yX5_fetch : MethodName := ⟨RX5, "fetch", "(II)I"⟩
abbrev cX5_away : ByteArray := prog_1_method_24_code
def yX5_away : MethodName := ⟨RX5, "away", "(II)I"⟩
abbrev cX5_night : ByteArray := prog_1_method_25_code
def yX5_night : MethodName := ⟨RX5, "night", "()I"⟩
abbrev cX5_share : ByteArray := prog_1_method_26_code
def yX5_share : MethodName := ⟨RX5, "share", "(II)I"⟩
abbrev cX5_take : ByteArray := prog_1_method_27_code
def yX5_take : MethodName := ⟨RX5, "take", "(I)I"⟩
abbrev cX5_could : ByteArray := prog_1_method_28_code
def yX5_could : MethodName := ⟨RX5, "could", "(IIII)I"⟩
abbrev cX5_odd : ByteArray := prog_1_method_29_code
def yX5_odd : MethodName := ⟨RX5, "odd", "(III)J"⟩
abbrev cX5_count : ByteArray := prog_1_method_30_code
def yX5_count : MethodName := ⟨RX5, "count", "(I)I"⟩
abbrev cX5_trace : ByteArray := prog_1_method_31_code
def yX5_trace : MethodName := ⟨RX5, "trace", "()J"⟩
abbrev cX5_beginAnew : ByteArray := prog_1_method_32_code
def yX5_beginAnew : MethodName := ⟨RX5, "beginAnew", "(I)V"⟩
abbrev cX5_isMachine : ByteArray := prog_1_method_33_code
def yX5_isMachine : MethodName := ⟨RX5, "isMachine", "(I)Z"⟩
abbrev cX5_isThing : ByteArray := prog_1_method_34_code
def yX5_isThing : MethodName := ⟨RX5, "isThing", "(I)Z"⟩
abbrev cX5_isOwnName : ByteArray := prog_1_method_35_code
def yX5_isOwnName : MethodName := ⟨RX5, "isOwnName", "(I)Z"⟩
abbrev cX5_isPerson : ByteArray := prog_1_method_36_code
def yX5_isPerson : MethodName := ⟨RX5, "isPerson", "(I)Z"⟩
abbrev cX5_isDay : ByteArray := prog_1_method_37_code
def yX5_isDay : MethodName := ⟨RX5, "isDay", "(I)Z"⟩
abbrev cX5_growNow : ByteArray := prog_1_method_38_code
def yX5_growNow : MethodName := ⟨RX5, "growNow", "(I)V"⟩
abbrev cX5_byteOf : ByteArray := prog_1_method_39_code
def yX5_byteOf : MethodName := ⟨RX5, "byteOf", "(JII)I"⟩
abbrev cX5_bulkAsThing : ByteArray := prog_1_method_40_code
def yX5_bulkAsThing : MethodName := ⟨RX5, "bulkAsThing", "(I)I"⟩
abbrev cX5_bulkAsFile : ByteArray := prog_1_method_41_code
def yX5_bulkAsFile : MethodName := ⟨RX5, "bulkAsFile", "(I)I"⟩
abbrev cX5_bulkAsFolder : ByteArray := prog_1_method_42_code
def yX5_bulkAsFolder : MethodName := ⟨RX5, "bulkAsFolder", "(I)I"⟩
abbrev cX5_bulkAsLink : ByteArray := prog_1_method_43_code
def yX5_bulkAsLink : MethodName := ⟨RX5, "bulkAsLink", "(I)I"⟩
abbrev cX5_bulkAsHeld : ByteArray := prog_1_method_44_code
def yX5_bulkAsHeld : MethodName := ⟨RX5, "bulkAsHeld", "(I)I"⟩
abbrev cX5_bulkAsClash : ByteArray := prog_1_method_45_code
def yX5_bulkAsClash : MethodName := ⟨RX5, "bulkAsClash", "(I)I"⟩
abbrev cX5_wantPiecesOf : ByteArray := prog_1_method_46_code
def yX5_wantPiecesOf : MethodName := ⟨RX5, "wantPiecesOf", "(I)V"⟩
abbrev cX5_gatherPiecesOfOthers : ByteArray := prog_1_method_47_code
def yX5_gatherPiecesOfOthers : MethodName := ⟨RX5, "gatherPiecesOfOthers", "(I)V"⟩
abbrev cX5_addPiecesOf : ByteArray := prog_1_method_48_code
def yX5_addPiecesOf : MethodName := ⟨RX5, "addPiecesOf", "(ILFolderRows$PieceSet;)V"⟩
abbrev cX5_hasRoomForWanted : ByteArray := prog_1_method_49_code
def yX5_hasRoomForWanted : MethodName := ⟨RX5, "hasRoomForWanted", "(I)Z"⟩
abbrev cX5_othersHaveWanted : ByteArray := prog_1_method_50_code
def yX5_othersHaveWanted : MethodName := ⟨RX5, "othersHaveWanted", "(I)Z"⟩
abbrev cX5_power : ByteArray := prog_1_method_51_code
def yX5_power : MethodName := ⟨RX5, "power", "(II)J"⟩
abbrev cX5_choose : ByteArray := prog_1_method_52_code
def yX5_choose : MethodName := ⟨RX5, "choose", "(II)J"⟩
abbrev cX5_waysOfAtLeast : ByteArray := prog_1_method_53_code
def yX5_waysOfAtLeast : MethodName := ⟨RX5, "waysOfAtLeast", "(III)J"⟩
def RX6 : String := "FolderRowsModel"
def TX6 : u_T := fun k => match k with
  | 0 => ("FolderRowsModel", "thrown", "I", false)
  | 1 => ("FolderRowsModel", "trace", "J", false)
  | 2 => ("FolderRowsModel", "n", "I", false)
  | 3 => ("FolderRowsModel", "rules", "I", false)
  | 4 => ("FolderRowsModel", "day", "I", false)
  | 5 => ("FolderRowsModel", "many", "[I", true)
  | 6 => ("FolderRowsModel", "change", "[I", true)
  | 7 => ("FolderRowsModel", "bytes", "[J", true)
  | 8 => ("FolderRowsModel", "known", "[I", true)
  | 9 => ("FolderRowsModel", "ended", "[I", true)
  | 10 => ("FolderRowsModel", "apart", "[I", true)
  | 11 => ("FolderRowsModel", "firstOut", "[I", true)
  | 12 => ("FolderRowsModel", "next", "[I", true)
  | 13 => ("FolderRowsModel", "view", "[I", true)
  | 14 => ("FolderRowsModel", "isMade", "[Z", true)
  | 15 => ("FolderRowsModel", "isThere", "[Z", true)
  | 16 => ("FolderRowsModel", "kind", "[I", true)
  | 17 => ("FolderRowsModel", "folder", "[I", true)
  | 18 => ("FolderRowsModel", "wanted", "[I", true)
  | 19 => ("FolderRowsModel", "since", "[I", true)
  | 20 => ("FolderRowsModel", "name", "[I", true)
  | 21 => ("FolderRowsModel", "rows", "[I", true)
  | 22 => ("FolderRowsModel", "rowOf", "[I", true)
  | 23 => ("FolderRowsModel", "isGone", "[Z", true)
  | 24 => ("FolderRowsModel", "room", "[I", true)
  | 25 => ("FolderRowsModel", "pieceMany", "[I", true)
  | 26 => ("FolderRowsModel", "piece", "[J", true)
  | 27 => ("FolderRowsModel", "pieceSize", "[I", true)
  | 28 => ("FolderRowsModel", "cutMany", "I", false)
  | 29 => ("FolderRowsModel", "cut", "[J", true)
  | 30 => ("FolderRowsModel", "cutSize", "[I", true)
  | 31 => ("FolderRowsModel", "shares", "I", false)
  | 32 => ("FolderRowsModel", "sharePerson", "[I", true)
  | 33 => ("FolderRowsModel", "shareThing", "[I", true)
  | 34 => ("FolderRowsModel", "shareFrom", "[I", true)
  | _ => ("FolderRowsModel", "shareTill", "[I", true)
def tyX6 : Nat → FieldType := fun k => match k with
  | 0 => .int
  | 1 => .long
  | 2 => .int
  | 3 => .int
  | 4 => .int
  | 5 => .array .int
  | 6 => .array .int
  | 7 => .array .long
  | 8 => .array .int
  | 9 => .array .int
  | 10 => .array .int
  | 11 => .array .int
  | 12 => .array .int
  | 13 => .array .int
  | 14 => .array .boolean
  | 15 => .array .boolean
  | 16 => .array .int
  | 17 => .array .int
  | 18 => .array .int
  | 19 => .array .int
  | 20 => .array .int
  | 21 => .array .int
  | 22 => .array .int
  | 23 => .array .boolean
  | 24 => .array .int
  | 25 => .array .int
  | 26 => .array .long
  | 27 => .array .int
  | 28 => .int
  | 29 => .array .long
  | 30 => .array .int
  | 31 => .int
  | 32 => .array .int
  | 33 => .array .int
  | 34 => .array .int
  | _ => .array .int
abbrev wsX60 : List Cond := u_ws RX6 TX6 36
theorem nmX6 : ∀ a, a < 36 → ∀ b, b < 36 → a ≠ b → (TX6 a).2.1 ≠ (TX6 b).2.1 := by decide +kernel
theorem tyX6_ok : ∀ k, k < 36 → parseFieldDescriptor (TX6 k).2.2.1 = some (tyX6 k) := by decide +kernel
abbrev cX6_init : ByteArray := prog_8_method_1_code
def yX6_init : MethodName := ⟨RX6, "<init>", "()V"⟩
abbrev cX6_in : ByteArray := prog_8_method_3_code
def yX6_in : MethodName := ⟨RX6, "in", "(III)Z"⟩
abbrev cX6_begins : ByteArray := prog_8_method_4_code
def yX6_begins : MethodName := ⟨RX6, "begins", "()V"⟩
abbrev cX6_isMachine : ByteArray := prog_8_method_5_code
def yX6_isMachine : MethodName := ⟨RX6, "isMachine", "(I)Z"⟩
abbrev cX6_isThing : ByteArray := prog_8_method_6_code
def yX6_isThing : MethodName := ⟨RX6, "isThing", "(I)Z"⟩
abbrev cX6_isDay : ByteArray := prog_8_method_7_code
def yX6_isDay : MethodName := ⟨RX6, "isDay", "(I)Z"⟩
abbrev cX6_changeAt : ByteArray := prog_8_method_8_code
def yX6_changeAt : MethodName := ⟨RX6, "changeAt", "(II)I"⟩
abbrev cX6_first : ByteArray := prog_8_method_9_code
def yX6_first : MethodName := ⟨RX6, "first", "([I)I"⟩
abbrev cX6_restarts : ByteArray := prog_8_method_10_code
def yX6_restarts : MethodName := ⟨RX6, "restarts", "()V"⟩
abbrev cX6_leaves : ByteArray := prog_8_method_11_code
def yX6_leaves : MethodName := ⟨RX6, "leaves", "()V"⟩
abbrev cX6_isFolder : ByteArray := prog_8_method_12_code
def yX6_isFolder : MethodName := ⟨RX6, "isFolder", "(I)Z"⟩
abbrev cX6_liesIn : ByteArray := prog_8_method_13_code
def yX6_liesIn : MethodName := ⟨RX6, "liesIn", "(II)Z"⟩
abbrev cX6_puts : ByteArray := prog_8_method_14_code
def yX6_puts : MethodName := ⟨RX6, "puts", "(IIII)V"⟩
abbrev cX6_goes : ByteArray := prog_8_method_15_code
def yX6_goes : MethodName := ⟨RX6, "goes", "(I)V"⟩
abbrev cX6_writes : ByteArray := prog_8_method_16_code
def yX6_writes : MethodName := ⟨RX6, "writes", "(II)V"⟩
abbrev cX6_does : ByteArray := prog_8_method_17_code
def yX6_does : MethodName := ⟨RX6, "does", "(III)V"⟩
abbrev cX6_tells : ByteArray := prog_8_method_18_code
def yX6_tells : MethodName := ⟨RX6, "tells", "()V"⟩
abbrev cX6_isAhead : ByteArray := prog_8_method_19_code
def yX6_isAhead : MethodName := ⟨RX6, "isAhead", "(II)Z"⟩
abbrev cX6_names : ByteArray := prog_8_method_20_code
def yX6_names : MethodName := ⟨RX6, "names", "()V"⟩
abbrev cX6_nextNameless : ByteArray := prog_8_method_21_code
def yX6_nextNameless : MethodName := ⟨RX6, "nextNameless", "()I"⟩
abbrev cX6_isTaken : ByteArray := prog_8_method_22_code
def yX6_isTaken : MethodName := ⟨RX6, "isTaken", "(II)Z"⟩
abbrev cX6_tellsNow : ByteArray := prog_8_method_23_code
def yX6_tellsNow : MethodName := ⟨RX6, "tellsNow", "(I)V"⟩
abbrev cX6_tellsOf : ByteArray := prog_8_method_24_code
def yX6_tellsOf : MethodName := ⟨RX6, "tellsOf", "(II)V"⟩
abbrev cX6_machines : ByteArray := prog_8_method_25_code
def yX6_machines : MethodName := ⟨RX6, "machines", "(I)I"⟩
abbrev cX6_rules : ByteArray := prog_8_method_26_code
def yX6_rules : MethodName := ⟨RX6, "rules", "(I)I"⟩
abbrev cX6_makes : ByteArray := prog_8_method_27_code
def yX6_makes : MethodName := ⟨RX6, "makes", "(IIIIII)I"⟩
abbrev cX6_make : ByteArray := prog_8_method_28_code
def yX6_make : MethodName := ⟨RX6, "make", "(IIII)I"⟩
abbrev cX6_isNew : ByteArray := prog_8_method_29_code
def yX6_isNew : MethodName := ⟨RX6, "isNew", "(II)Z"⟩
abbrev cX6_move : ByteArray := prog_8_method_30_code
def yX6_move : MethodName := ⟨RX6, "move", "(IIII)I"⟩
abbrev cX6_gone : ByteArray := prog_8_method_31_code
def yX6_gone : MethodName := ⟨RX6, "gone", "(II)I"⟩
abbrev cX6_byteOf : ByteArray := prog_8_method_32_code
def yX6_byteOf : MethodName := ⟨RX6, "byteOf", "(JII)I"⟩
abbrev cX6_cuts : ByteArray := prog_8_method_33_code
def yX6_cuts : MethodName := ⟨RX6, "cuts", "(JI)V"⟩
abbrev cX6_pieceAt : ByteArray := prog_8_method_34_code
def yX6_pieceAt : MethodName := ⟨RX6, "pieceAt", "(IJI)I"⟩
abbrev cX6_bytesAt : ByteArray := prog_8_method_35_code
def yX6_bytesAt : MethodName := ⟨RX6, "bytesAt", "(I)I"⟩
abbrev cX6_lacking : ByteArray := prog_8_method_36_code
def yX6_lacking : MethodName := ⟨RX6, "lacking", "(I)I"⟩
abbrev cX6_takes : ByteArray := prog_8_method_37_code
def yX6_takes : MethodName := ⟨RX6, "takes", "(I)V"⟩
abbrev cX6_isFile : ByteArray := prog_8_method_38_code
def yX6_isFile : MethodName := ⟨RX6, "isFile", "(I)Z"⟩
abbrev cX6_write : ByteArray := prog_8_method_39_code
def yX6_write : MethodName := ⟨RX6, "write", "(IIJI)I"⟩
abbrev cX6_send : ByteArray := prog_8_method_40_code
def yX6_send : MethodName := ⟨RX6, "send", "(II)I"⟩
abbrev cX6_sendSome : ByteArray := prog_8_method_41_code
def yX6_sendSome : MethodName := ⟨RX6, "sendSome", "(III)I"⟩
abbrev cX6_change : ByteArray := prog_8_method_42_code
def yX6_change : MethodName := ⟨RX6, "change", "(III)I"⟩
abbrev cX6_thing : ByteArray := prog_8_method_43_code
def yX6_thing : MethodName := ⟨RX6, "thing", "(IIII)I"⟩
abbrev cX6_sizeOf : ByteArray := prog_8_method_44_code
def yX6_sizeOf : MethodName := ⟨RX6, "sizeOf", "(I)I"⟩
abbrev cX6_bytes : ByteArray := prog_8_method_45_code
def yX6_bytes : MethodName := ⟨RX6, "bytes", "(IIII)I"⟩
abbrev cX6_held : ByteArray := prog_8_method_46_code
def yX6_held : MethodName := ⟨RX6, "held", "(I)I"⟩
abbrev cX6_inside : ByteArray := prog_8_method_47_code
def yX6_inside : MethodName := ⟨RX6, "inside", "(I)I"⟩
abbrev cX6_bulk : ByteArray := prog_8_method_48_code
def yX6_bulk : MethodName := ⟨RX6, "bulk", "(III)I"⟩
abbrev cX6_things : ByteArray := prog_8_method_49_code
def yX6_things : MethodName := ⟨RX6, "things", "(II)I"⟩
abbrev cX6_find : ByteArray := prog_8_method_50_code
def yX6_find : MethodName := ⟨RX6, "find", "(III)I"⟩
abbrev cX6_sum : ByteArray := prog_8_method_51_code
def yX6_sum : MethodName := ⟨RX6, "sum", "(II)I"⟩
abbrev cX6_differ : ByteArray := prog_8_method_52_code
def yX6_differ : MethodName := ⟨RX6, "differ", "(II)I"⟩
abbrev cX6_apart : ByteArray := prog_8_method_53_code
def yX6_apart : MethodName := ⟨RX6, "apart", "(II)I"⟩
abbrev cX6_let : ByteArray := prog_8_method_54_code
def yX6_let : MethodName := ⟨RX6, "let", "(I)I"⟩
abbrev cX6_left : ByteArray := prog_8_method_55_code
def yX6_left : MethodName := ⟨RX6, "left", "([II)I"⟩
abbrev cX6_taken : ByteArray := prog_8_method_56_code
def yX6_taken : MethodName := ⟨RX6, "taken", "(I)I"⟩
abbrev cX6_room : ByteArray := prog_8_method_57_code
def yX6_room : MethodName := ⟨RX6, "room", "(II)I"⟩
abbrev cX6_cutsFile : ByteArray := prog_8_method_58_code
def yX6_cutsFile : MethodName := ⟨RX6, "cutsFile", "(I)V"⟩
abbrev cX6_pieces : ByteArray := prog_8_method_59_code
def yX6_pieces : MethodName := ⟨RX6, "pieces", "(III)I"⟩
abbrev cX6_isElsewhere : ByteArray := prog_8_method_60_code
def yX6_isElsewhere : MethodName := ⟨RX6, "isElsewhere", "(IJI)Z"⟩
abbrev cX6_fetch : ByteArray := prog_8_method_61_code
def yX6_fetch : MethodName := ⟨RX6, "fetch", "(II)I"⟩
abbrev cX6_away : ByteArray := prog_8_method_62_code
def yX6_away : MethodName := ⟨RX6, "away", "(II)I"⟩
abbrev cX6_night : ByteArray := prog_8_method_63_code
def yX6_night : MethodName := ⟨RX6, "night", "()I"⟩
abbrev cX6_share : ByteArray := prog_8_method_64_code
def yX6_share : MethodName := ⟨RX6, "share", "(II)I"⟩
abbrev cX6_take : ByteArray := prog_8_method_65_code
def yX6_take : MethodName := ⟨RX6, "take", "(I)I"⟩
abbrev cX6_could : ByteArray := prog_8_method_66_code
def yX6_could : MethodName := ⟨RX6, "could", "(IIII)I"⟩
abbrev cX6_power : ByteArray := prog_8_method_67_code
def yX6_power : MethodName := ⟨RX6, "power", "(II)J"⟩
abbrev cX6_choose : ByteArray := prog_8_method_68_code
def yX6_choose : MethodName := ⟨RX6, "choose", "(II)J"⟩
abbrev cX6_odd : ByteArray := prog_8_method_69_code
def yX6_odd : MethodName := ⟨RX6, "odd", "(III)J"⟩
abbrev cX6_count : ByteArray := prog_8_method_70_code
def yX6_count : MethodName := ⟨RX6, "count", "(I)I"⟩
abbrev cX6_trace : ByteArray := prog_8_method_71_code
def yX6_trace : MethodName := ⟨RX6, "trace", "()J"⟩
def RL : String := "FolderRowsLaw"
abbrev cL_law : ByteArray := code
abbrev vwCl : List vw_C := [(RX0, TX0, 12), (RX1, TX1, 8), (RX2, TX2, 4), (RX3, TX3, 5), (RX4, TX4, 10), (RX5, TX5, 10), (RX6, TX6, 36)]
end
section
theorem dL_law_0 : decode cL_law 0 = .ok (.new 7, 3) := by decide +kernel
theorem dL_law_3 : decode cL_law 3 = .ok (.dup, 1) := by decide +kernel
theorem dL_law_4 : decode cL_law 4 = .ok (.invokespecial 9, 3) := by decide +kernel
theorem dL_law_7 : decode cL_law 7 = .ok (.astore_n 1, 1) := by decide +kernel
theorem dL_law_8 : decode cL_law 8 = .ok (.new 10, 3) := by decide +kernel
theorem dL_law_11 : decode cL_law 11 = .ok (.dup, 1) := by decide +kernel
theorem dL_law_12 : decode cL_law 12 = .ok (.invokespecial 12, 3) := by decide +kernel
theorem dL_law_15 : decode cL_law 15 = .ok (.astore_n 2, 1) := by decide +kernel
theorem dL_law_16 : decode cL_law 16 = .ok (.iconst 0, 1) := by decide +kernel
theorem dL_law_17 : decode cL_law 17 = .ok (.istore_n 3, 1) := by decide +kernel
theorem dL_law_18 : decode cL_law 18 = .ok (.iload_n 3, 1) := by decide +kernel
theorem dL_law_19 : decode cL_law 19 = .ok (.aload_n 0, 1) := by decide +kernel
theorem dL_law_20 : decode cL_law 20 = .ok (.arraylength, 1) := by decide +kernel
theorem dL_law_21 : decode cL_law 21 = .ok (.bipush 6, 2) := by decide +kernel
theorem dL_law_23 : decode cL_law 23 = .ok (.isub, 1) := by decide +kernel
theorem dL_law_24 : decode cL_law 24 = .ok (.if_icmp .gt 1252, 3) := by decide +kernel
theorem dL_law_27 : decode cL_law 27 = .ok (.aload_n 0, 1) := by decide +kernel
theorem dL_law_28 : decode cL_law 28 = .ok (.iload_n 3, 1) := by decide +kernel
theorem dL_law_29 : decode cL_law 29 = .ok (.iaload, 1) := by decide +kernel
theorem dL_law_30 : decode cL_law 30 = .ok (.bipush 31, 2) := by decide +kernel
theorem dL_law_32 : decode cL_law 32 = .ok (.iand, 1) := by decide +kernel
theorem dL_law_33 : decode cL_law 33 = .ok (.tableswitch 1237 0 29 #[135, 158, 181, 234, 287, 320, 403, 436, 479, 522, 575, 628, 671, 704, 747, 780, 813, 846, 869, 892, 925, 968, 1001, 1034, 1047, 1080, 1103, 1156, 1200, 1223], 135) := by decide +kernel
theorem dL_law_168 : decode cL_law 168 = .ok (.aload_n 1, 1) := by decide +kernel
theorem dL_law_169 : decode cL_law 169 = .ok (.aload_n 0, 1) := by decide +kernel
theorem dL_law_170 : decode cL_law 170 = .ok (.iload_n 3, 1) := by decide +kernel
theorem dL_law_171 : decode cL_law 171 = .ok (.iconst 1, 1) := by decide +kernel
theorem dL_law_172 : decode cL_law 172 = .ok (.iadd, 1) := by decide +kernel
theorem dL_law_173 : decode cL_law 173 = .ok (.iaload, 1) := by decide +kernel
theorem dL_law_174 : decode cL_law 174 = .ok (.invokevirtual 13, 3) := by decide +kernel
theorem dL_law_177 : decode cL_law 177 = .ok (.aload_n 2, 1) := by decide +kernel
theorem dL_law_178 : decode cL_law 178 = .ok (.aload_n 0, 1) := by decide +kernel
theorem dL_law_179 : decode cL_law 179 = .ok (.iload_n 3, 1) := by decide +kernel
theorem dL_law_180 : decode cL_law 180 = .ok (.iconst 1, 1) := by decide +kernel
theorem dL_law_181 : decode cL_law 181 = .ok (.iadd, 1) := by decide +kernel
theorem dL_law_182 : decode cL_law 182 = .ok (.iaload, 1) := by decide +kernel
theorem dL_law_183 : decode cL_law 183 = .ok (.invokevirtual 17, 3) := by decide +kernel
theorem dL_law_186 : decode cL_law 186 = .ok (.if_icmp .eq 1084, 3) := by decide +kernel
theorem dL_law_189 : decode cL_law 189 = .ok (.iconst 0, 1) := by decide +kernel
theorem dL_law_190 : decode cL_law 190 = .ok (.ireturn, 1) := by decide +kernel
theorem dL_law_191 : decode cL_law 191 = .ok (.aload_n 1, 1) := by decide +kernel
theorem dL_law_192 : decode cL_law 192 = .ok (.aload_n 0, 1) := by decide +kernel
theorem dL_law_193 : decode cL_law 193 = .ok (.iload_n 3, 1) := by decide +kernel
theorem dL_law_194 : decode cL_law 194 = .ok (.iconst 1, 1) := by decide +kernel
theorem dL_law_195 : decode cL_law 195 = .ok (.iadd, 1) := by decide +kernel
theorem dL_law_196 : decode cL_law 196 = .ok (.iaload, 1) := by decide +kernel
theorem dL_law_197 : decode cL_law 197 = .ok (.invokevirtual 18, 3) := by decide +kernel
theorem dL_law_200 : decode cL_law 200 = .ok (.aload_n 2, 1) := by decide +kernel
theorem dL_law_201 : decode cL_law 201 = .ok (.aload_n 0, 1) := by decide +kernel
theorem dL_law_202 : decode cL_law 202 = .ok (.iload_n 3, 1) := by decide +kernel
theorem dL_law_203 : decode cL_law 203 = .ok (.iconst 1, 1) := by decide +kernel
theorem dL_law_204 : decode cL_law 204 = .ok (.iadd, 1) := by decide +kernel
theorem dL_law_205 : decode cL_law 205 = .ok (.iaload, 1) := by decide +kernel
theorem dL_law_206 : decode cL_law 206 = .ok (.invokevirtual 21, 3) := by decide +kernel
theorem dL_law_209 : decode cL_law 209 = .ok (.if_icmp .eq 1061, 3) := by decide +kernel
theorem dL_law_212 : decode cL_law 212 = .ok (.iconst 0, 1) := by decide +kernel
theorem dL_law_213 : decode cL_law 213 = .ok (.ireturn, 1) := by decide +kernel
theorem dL_law_214 : decode cL_law 214 = .ok (.aload_n 1, 1) := by decide +kernel
theorem dL_law_215 : decode cL_law 215 = .ok (.aload_n 0, 1) := by decide +kernel
theorem dL_law_216 : decode cL_law 216 = .ok (.iload_n 3, 1) := by decide +kernel
theorem dL_law_217 : decode cL_law 217 = .ok (.iconst 1, 1) := by decide +kernel
theorem dL_law_218 : decode cL_law 218 = .ok (.iadd, 1) := by decide +kernel
theorem dL_law_219 : decode cL_law 219 = .ok (.iaload, 1) := by decide +kernel
theorem dL_law_220 : decode cL_law 220 = .ok (.aload_n 0, 1) := by decide +kernel
theorem dL_law_221 : decode cL_law 221 = .ok (.iload_n 3, 1) := by decide +kernel
theorem dL_law_222 : decode cL_law 222 = .ok (.iconst 2, 1) := by decide +kernel
theorem dL_law_223 : decode cL_law 223 = .ok (.iadd, 1) := by decide +kernel
theorem dL_law_224 : decode cL_law 224 = .ok (.iaload, 1) := by decide +kernel
theorem dL_law_225 : decode cL_law 225 = .ok (.aload_n 0, 1) := by decide +kernel
theorem dL_law_226 : decode cL_law 226 = .ok (.iload_n 3, 1) := by decide +kernel
theorem dL_law_227 : decode cL_law 227 = .ok (.iconst 3, 1) := by decide +kernel
theorem dL_law_228 : decode cL_law 228 = .ok (.iadd, 1) := by decide +kernel
theorem dL_law_229 : decode cL_law 229 = .ok (.iaload, 1) := by decide +kernel
theorem dL_law_230 : decode cL_law 230 = .ok (.aload_n 0, 1) := by decide +kernel
theorem dL_law_231 : decode cL_law 231 = .ok (.iload_n 3, 1) := by decide +kernel
theorem dL_law_232 : decode cL_law 232 = .ok (.iconst 4, 1) := by decide +kernel
theorem dL_law_233 : decode cL_law 233 = .ok (.iadd, 1) := by decide +kernel
theorem dL_law_234 : decode cL_law 234 = .ok (.iaload, 1) := by decide +kernel
theorem dL_law_235 : decode cL_law 235 = .ok (.invokevirtual 22, 3) := by decide +kernel
theorem dL_law_238 : decode cL_law 238 = .ok (.aload_n 2, 1) := by decide +kernel
theorem dL_law_239 : decode cL_law 239 = .ok (.aload_n 0, 1) := by decide +kernel
theorem dL_law_240 : decode cL_law 240 = .ok (.iload_n 3, 1) := by decide +kernel
theorem dL_law_241 : decode cL_law 241 = .ok (.iconst 1, 1) := by decide +kernel
theorem dL_law_242 : decode cL_law 242 = .ok (.iadd, 1) := by decide +kernel
theorem dL_law_243 : decode cL_law 243 = .ok (.iaload, 1) := by decide +kernel
theorem dL_law_244 : decode cL_law 244 = .ok (.aload_n 0, 1) := by decide +kernel
theorem dL_law_245 : decode cL_law 245 = .ok (.iload_n 3, 1) := by decide +kernel
theorem dL_law_246 : decode cL_law 246 = .ok (.iconst 2, 1) := by decide +kernel
theorem dL_law_247 : decode cL_law 247 = .ok (.iadd, 1) := by decide +kernel
theorem dL_law_248 : decode cL_law 248 = .ok (.iaload, 1) := by decide +kernel
theorem dL_law_249 : decode cL_law 249 = .ok (.aload_n 0, 1) := by decide +kernel
theorem dL_law_250 : decode cL_law 250 = .ok (.iload_n 3, 1) := by decide +kernel
theorem dL_law_251 : decode cL_law 251 = .ok (.iconst 3, 1) := by decide +kernel
theorem dL_law_252 : decode cL_law 252 = .ok (.iadd, 1) := by decide +kernel
theorem dL_law_253 : decode cL_law 253 = .ok (.iaload, 1) := by decide +kernel
theorem dL_law_254 : decode cL_law 254 = .ok (.aload_n 0, 1) := by decide +kernel
theorem dL_law_255 : decode cL_law 255 = .ok (.iload_n 3, 1) := by decide +kernel
theorem dL_law_256 : decode cL_law 256 = .ok (.iconst 4, 1) := by decide +kernel
theorem dL_law_257 : decode cL_law 257 = .ok (.iadd, 1) := by decide +kernel
theorem dL_law_258 : decode cL_law 258 = .ok (.iaload, 1) := by decide +kernel
theorem dL_law_259 : decode cL_law 259 = .ok (.invokevirtual 26, 3) := by decide +kernel
theorem dL_law_262 : decode cL_law 262 = .ok (.if_icmp .eq 1008, 3) := by decide +kernel
theorem dL_law_265 : decode cL_law 265 = .ok (.iconst 0, 1) := by decide +kernel
theorem dL_law_266 : decode cL_law 266 = .ok (.ireturn, 1) := by decide +kernel
theorem dL_law_267 : decode cL_law 267 = .ok (.aload_n 1, 1) := by decide +kernel
theorem dL_law_268 : decode cL_law 268 = .ok (.aload_n 0, 1) := by decide +kernel
theorem dL_law_269 : decode cL_law 269 = .ok (.iload_n 3, 1) := by decide +kernel
theorem dL_law_270 : decode cL_law 270 = .ok (.iconst 1, 1) := by decide +kernel
theorem dL_law_271 : decode cL_law 271 = .ok (.iadd, 1) := by decide +kernel
theorem dL_law_272 : decode cL_law 272 = .ok (.iaload, 1) := by decide +kernel
theorem dL_law_273 : decode cL_law 273 = .ok (.aload_n 0, 1) := by decide +kernel
theorem dL_law_274 : decode cL_law 274 = .ok (.iload_n 3, 1) := by decide +kernel
theorem dL_law_275 : decode cL_law 275 = .ok (.iconst 2, 1) := by decide +kernel
theorem dL_law_276 : decode cL_law 276 = .ok (.iadd, 1) := by decide +kernel
theorem dL_law_277 : decode cL_law 277 = .ok (.iaload, 1) := by decide +kernel
theorem dL_law_278 : decode cL_law 278 = .ok (.aload_n 0, 1) := by decide +kernel
theorem dL_law_279 : decode cL_law 279 = .ok (.iload_n 3, 1) := by decide +kernel
theorem dL_law_280 : decode cL_law 280 = .ok (.iconst 3, 1) := by decide +kernel
theorem dL_law_281 : decode cL_law 281 = .ok (.iadd, 1) := by decide +kernel
theorem dL_law_282 : decode cL_law 282 = .ok (.iaload, 1) := by decide +kernel
theorem dL_law_283 : decode cL_law 283 = .ok (.aload_n 0, 1) := by decide +kernel
theorem dL_law_284 : decode cL_law 284 = .ok (.iload_n 3, 1) := by decide +kernel
theorem dL_law_285 : decode cL_law 285 = .ok (.iconst 4, 1) := by decide +kernel
theorem dL_law_286 : decode cL_law 286 = .ok (.iadd, 1) := by decide +kernel
theorem dL_law_287 : decode cL_law 287 = .ok (.iaload, 1) := by decide +kernel
theorem dL_law_288 : decode cL_law 288 = .ok (.invokevirtual 27, 3) := by decide +kernel
theorem dL_law_291 : decode cL_law 291 = .ok (.aload_n 2, 1) := by decide +kernel
theorem dL_law_292 : decode cL_law 292 = .ok (.aload_n 0, 1) := by decide +kernel
theorem dL_law_293 : decode cL_law 293 = .ok (.iload_n 3, 1) := by decide +kernel
theorem dL_law_294 : decode cL_law 294 = .ok (.iconst 1, 1) := by decide +kernel
theorem dL_law_295 : decode cL_law 295 = .ok (.iadd, 1) := by decide +kernel
theorem dL_law_296 : decode cL_law 296 = .ok (.iaload, 1) := by decide +kernel
theorem dL_law_297 : decode cL_law 297 = .ok (.aload_n 0, 1) := by decide +kernel
theorem dL_law_298 : decode cL_law 298 = .ok (.iload_n 3, 1) := by decide +kernel
theorem dL_law_299 : decode cL_law 299 = .ok (.iconst 2, 1) := by decide +kernel
theorem dL_law_300 : decode cL_law 300 = .ok (.iadd, 1) := by decide +kernel
theorem dL_law_301 : decode cL_law 301 = .ok (.iaload, 1) := by decide +kernel
theorem dL_law_302 : decode cL_law 302 = .ok (.aload_n 0, 1) := by decide +kernel
theorem dL_law_303 : decode cL_law 303 = .ok (.iload_n 3, 1) := by decide +kernel
theorem dL_law_304 : decode cL_law 304 = .ok (.iconst 3, 1) := by decide +kernel
theorem dL_law_305 : decode cL_law 305 = .ok (.iadd, 1) := by decide +kernel
theorem dL_law_306 : decode cL_law 306 = .ok (.iaload, 1) := by decide +kernel
theorem dL_law_307 : decode cL_law 307 = .ok (.aload_n 0, 1) := by decide +kernel
theorem dL_law_308 : decode cL_law 308 = .ok (.iload_n 3, 1) := by decide +kernel
theorem dL_law_309 : decode cL_law 309 = .ok (.iconst 4, 1) := by decide +kernel
theorem dL_law_310 : decode cL_law 310 = .ok (.iadd, 1) := by decide +kernel
theorem dL_law_311 : decode cL_law 311 = .ok (.iaload, 1) := by decide +kernel
theorem dL_law_312 : decode cL_law 312 = .ok (.invokevirtual 30, 3) := by decide +kernel
theorem dL_law_315 : decode cL_law 315 = .ok (.if_icmp .eq 955, 3) := by decide +kernel
theorem dL_law_318 : decode cL_law 318 = .ok (.iconst 0, 1) := by decide +kernel
theorem dL_law_319 : decode cL_law 319 = .ok (.ireturn, 1) := by decide +kernel
theorem dL_law_320 : decode cL_law 320 = .ok (.aload_n 1, 1) := by decide +kernel
theorem dL_law_321 : decode cL_law 321 = .ok (.aload_n 0, 1) := by decide +kernel
theorem dL_law_322 : decode cL_law 322 = .ok (.iload_n 3, 1) := by decide +kernel
theorem dL_law_323 : decode cL_law 323 = .ok (.iconst 1, 1) := by decide +kernel
theorem dL_law_324 : decode cL_law 324 = .ok (.iadd, 1) := by decide +kernel
theorem dL_law_325 : decode cL_law 325 = .ok (.iaload, 1) := by decide +kernel
theorem dL_law_326 : decode cL_law 326 = .ok (.aload_n 0, 1) := by decide +kernel
theorem dL_law_327 : decode cL_law 327 = .ok (.iload_n 3, 1) := by decide +kernel
theorem dL_law_328 : decode cL_law 328 = .ok (.iconst 2, 1) := by decide +kernel
theorem dL_law_329 : decode cL_law 329 = .ok (.iadd, 1) := by decide +kernel
theorem dL_law_330 : decode cL_law 330 = .ok (.iaload, 1) := by decide +kernel
theorem dL_law_331 : decode cL_law 331 = .ok (.invokevirtual 31, 3) := by decide +kernel
theorem dL_law_334 : decode cL_law 334 = .ok (.aload_n 2, 1) := by decide +kernel
theorem dL_law_335 : decode cL_law 335 = .ok (.aload_n 0, 1) := by decide +kernel
theorem dL_law_336 : decode cL_law 336 = .ok (.iload_n 3, 1) := by decide +kernel
theorem dL_law_337 : decode cL_law 337 = .ok (.iconst 1, 1) := by decide +kernel
theorem dL_law_338 : decode cL_law 338 = .ok (.iadd, 1) := by decide +kernel
theorem dL_law_339 : decode cL_law 339 = .ok (.iaload, 1) := by decide +kernel
theorem dL_law_340 : decode cL_law 340 = .ok (.aload_n 0, 1) := by decide +kernel
theorem dL_law_341 : decode cL_law 341 = .ok (.iload_n 3, 1) := by decide +kernel
theorem dL_law_342 : decode cL_law 342 = .ok (.iconst 2, 1) := by decide +kernel
theorem dL_law_343 : decode cL_law 343 = .ok (.iadd, 1) := by decide +kernel
theorem dL_law_344 : decode cL_law 344 = .ok (.iaload, 1) := by decide +kernel
theorem dL_law_345 : decode cL_law 345 = .ok (.invokevirtual 35, 3) := by decide +kernel
theorem dL_law_348 : decode cL_law 348 = .ok (.if_icmp .eq 922, 3) := by decide +kernel
theorem dL_law_351 : decode cL_law 351 = .ok (.iconst 0, 1) := by decide +kernel
theorem dL_law_352 : decode cL_law 352 = .ok (.ireturn, 1) := by decide +kernel
theorem dL_law_353 : decode cL_law 353 = .ok (.aload_n 1, 1) := by decide +kernel
theorem dL_law_354 : decode cL_law 354 = .ok (.aload_n 0, 1) := by decide +kernel
theorem dL_law_355 : decode cL_law 355 = .ok (.iload_n 3, 1) := by decide +kernel
theorem dL_law_356 : decode cL_law 356 = .ok (.iconst 1, 1) := by decide +kernel
theorem dL_law_357 : decode cL_law 357 = .ok (.iadd, 1) := by decide +kernel
theorem dL_law_358 : decode cL_law 358 = .ok (.iaload, 1) := by decide +kernel
theorem dL_law_359 : decode cL_law 359 = .ok (.aload_n 0, 1) := by decide +kernel
theorem dL_law_360 : decode cL_law 360 = .ok (.iload_n 3, 1) := by decide +kernel
theorem dL_law_361 : decode cL_law 361 = .ok (.iconst 2, 1) := by decide +kernel
theorem dL_law_362 : decode cL_law 362 = .ok (.iadd, 1) := by decide +kernel
theorem dL_law_363 : decode cL_law 363 = .ok (.iaload, 1) := by decide +kernel
theorem dL_law_364 : decode cL_law 364 = .ok (.aload_n 0, 1) := by decide +kernel
theorem dL_law_365 : decode cL_law 365 = .ok (.iload_n 3, 1) := by decide +kernel
theorem dL_law_366 : decode cL_law 366 = .ok (.iconst 3, 1) := by decide +kernel
theorem dL_law_367 : decode cL_law 367 = .ok (.iadd, 1) := by decide +kernel
theorem dL_law_368 : decode cL_law 368 = .ok (.iaload, 1) := by decide +kernel
theorem dL_law_369 : decode cL_law 369 = .ok (.i2l, 1) := by decide +kernel
theorem dL_law_370 : decode cL_law 370 = .ok (.bipush 32, 2) := by decide +kernel
theorem dL_law_372 : decode cL_law 372 = .ok (.lshl, 1) := by decide +kernel
theorem dL_law_373 : decode cL_law 373 = .ok (.aload_n 0, 1) := by decide +kernel
theorem dL_law_374 : decode cL_law 374 = .ok (.iload_n 3, 1) := by decide +kernel
theorem dL_law_375 : decode cL_law 375 = .ok (.iconst 4, 1) := by decide +kernel
theorem dL_law_376 : decode cL_law 376 = .ok (.iadd, 1) := by decide +kernel
theorem dL_law_377 : decode cL_law 377 = .ok (.iaload, 1) := by decide +kernel
theorem dL_law_378 : decode cL_law 378 = .ok (.i2l, 1) := by decide +kernel
theorem dL_law_379 : decode cL_law 379 = .ok (.ldc2_w 36, 3) := by decide +kernel
theorem dL_law_382 : decode cL_law 382 = .ok (.land, 1) := by decide +kernel
theorem dL_law_383 : decode cL_law 383 = .ok (.lor, 1) := by decide +kernel
theorem dL_law_384 : decode cL_law 384 = .ok (.aload_n 0, 1) := by decide +kernel
theorem dL_law_385 : decode cL_law 385 = .ok (.iload_n 3, 1) := by decide +kernel
theorem dL_law_386 : decode cL_law 386 = .ok (.iconst 5, 1) := by decide +kernel
theorem dL_law_387 : decode cL_law 387 = .ok (.iadd, 1) := by decide +kernel
theorem dL_law_388 : decode cL_law 388 = .ok (.iaload, 1) := by decide +kernel
theorem dL_law_389 : decode cL_law 389 = .ok (.invokevirtual 38, 3) := by decide +kernel
theorem dL_law_392 : decode cL_law 392 = .ok (.aload_n 2, 1) := by decide +kernel
theorem dL_law_393 : decode cL_law 393 = .ok (.aload_n 0, 1) := by decide +kernel
theorem dL_law_394 : decode cL_law 394 = .ok (.iload_n 3, 1) := by decide +kernel
theorem dL_law_395 : decode cL_law 395 = .ok (.iconst 1, 1) := by decide +kernel
theorem dL_law_396 : decode cL_law 396 = .ok (.iadd, 1) := by decide +kernel
theorem dL_law_397 : decode cL_law 397 = .ok (.iaload, 1) := by decide +kernel
theorem dL_law_398 : decode cL_law 398 = .ok (.aload_n 0, 1) := by decide +kernel
theorem dL_law_399 : decode cL_law 399 = .ok (.iload_n 3, 1) := by decide +kernel
theorem dL_law_400 : decode cL_law 400 = .ok (.iconst 2, 1) := by decide +kernel
theorem dL_law_401 : decode cL_law 401 = .ok (.iadd, 1) := by decide +kernel
theorem dL_law_402 : decode cL_law 402 = .ok (.iaload, 1) := by decide +kernel
theorem dL_law_403 : decode cL_law 403 = .ok (.aload_n 0, 1) := by decide +kernel
theorem dL_law_404 : decode cL_law 404 = .ok (.iload_n 3, 1) := by decide +kernel
theorem dL_law_405 : decode cL_law 405 = .ok (.iconst 3, 1) := by decide +kernel
theorem dL_law_406 : decode cL_law 406 = .ok (.iadd, 1) := by decide +kernel
theorem dL_law_407 : decode cL_law 407 = .ok (.iaload, 1) := by decide +kernel
theorem dL_law_408 : decode cL_law 408 = .ok (.i2l, 1) := by decide +kernel
theorem dL_law_409 : decode cL_law 409 = .ok (.bipush 32, 2) := by decide +kernel
theorem dL_law_411 : decode cL_law 411 = .ok (.lshl, 1) := by decide +kernel
theorem dL_law_412 : decode cL_law 412 = .ok (.aload_n 0, 1) := by decide +kernel
theorem dL_law_413 : decode cL_law 413 = .ok (.iload_n 3, 1) := by decide +kernel
theorem dL_law_414 : decode cL_law 414 = .ok (.iconst 4, 1) := by decide +kernel
theorem dL_law_415 : decode cL_law 415 = .ok (.iadd, 1) := by decide +kernel
theorem dL_law_416 : decode cL_law 416 = .ok (.iaload, 1) := by decide +kernel
theorem dL_law_417 : decode cL_law 417 = .ok (.i2l, 1) := by decide +kernel
theorem dL_law_418 : decode cL_law 418 = .ok (.ldc2_w 36, 3) := by decide +kernel
theorem dL_law_421 : decode cL_law 421 = .ok (.land, 1) := by decide +kernel
theorem dL_law_422 : decode cL_law 422 = .ok (.lor, 1) := by decide +kernel
theorem dL_law_423 : decode cL_law 423 = .ok (.aload_n 0, 1) := by decide +kernel
theorem dL_law_424 : decode cL_law 424 = .ok (.iload_n 3, 1) := by decide +kernel
theorem dL_law_425 : decode cL_law 425 = .ok (.iconst 5, 1) := by decide +kernel
theorem dL_law_426 : decode cL_law 426 = .ok (.iadd, 1) := by decide +kernel
theorem dL_law_427 : decode cL_law 427 = .ok (.iaload, 1) := by decide +kernel
theorem dL_law_428 : decode cL_law 428 = .ok (.invokevirtual 42, 3) := by decide +kernel
theorem dL_law_431 : decode cL_law 431 = .ok (.if_icmp .eq 839, 3) := by decide +kernel
theorem dL_law_434 : decode cL_law 434 = .ok (.iconst 0, 1) := by decide +kernel
theorem dL_law_435 : decode cL_law 435 = .ok (.ireturn, 1) := by decide +kernel
theorem dL_law_436 : decode cL_law 436 = .ok (.aload_n 1, 1) := by decide +kernel
theorem dL_law_437 : decode cL_law 437 = .ok (.aload_n 0, 1) := by decide +kernel
theorem dL_law_438 : decode cL_law 438 = .ok (.iload_n 3, 1) := by decide +kernel
theorem dL_law_439 : decode cL_law 439 = .ok (.iconst 1, 1) := by decide +kernel
theorem dL_law_440 : decode cL_law 440 = .ok (.iadd, 1) := by decide +kernel
theorem dL_law_441 : decode cL_law 441 = .ok (.iaload, 1) := by decide +kernel
theorem dL_law_442 : decode cL_law 442 = .ok (.aload_n 0, 1) := by decide +kernel
theorem dL_law_443 : decode cL_law 443 = .ok (.iload_n 3, 1) := by decide +kernel
theorem dL_law_444 : decode cL_law 444 = .ok (.iconst 2, 1) := by decide +kernel
theorem dL_law_445 : decode cL_law 445 = .ok (.iadd, 1) := by decide +kernel
theorem dL_law_446 : decode cL_law 446 = .ok (.iaload, 1) := by decide +kernel
theorem dL_law_447 : decode cL_law 447 = .ok (.invokevirtual 43, 3) := by decide +kernel
theorem dL_law_450 : decode cL_law 450 = .ok (.aload_n 2, 1) := by decide +kernel
theorem dL_law_451 : decode cL_law 451 = .ok (.aload_n 0, 1) := by decide +kernel
theorem dL_law_452 : decode cL_law 452 = .ok (.iload_n 3, 1) := by decide +kernel
theorem dL_law_453 : decode cL_law 453 = .ok (.iconst 1, 1) := by decide +kernel
theorem dL_law_454 : decode cL_law 454 = .ok (.iadd, 1) := by decide +kernel
theorem dL_law_455 : decode cL_law 455 = .ok (.iaload, 1) := by decide +kernel
theorem dL_law_456 : decode cL_law 456 = .ok (.aload_n 0, 1) := by decide +kernel
theorem dL_law_457 : decode cL_law 457 = .ok (.iload_n 3, 1) := by decide +kernel
theorem dL_law_458 : decode cL_law 458 = .ok (.iconst 2, 1) := by decide +kernel
theorem dL_law_459 : decode cL_law 459 = .ok (.iadd, 1) := by decide +kernel
theorem dL_law_460 : decode cL_law 460 = .ok (.iaload, 1) := by decide +kernel
theorem dL_law_461 : decode cL_law 461 = .ok (.invokevirtual 46, 3) := by decide +kernel
theorem dL_law_464 : decode cL_law 464 = .ok (.if_icmp .eq 806, 3) := by decide +kernel
theorem dL_law_467 : decode cL_law 467 = .ok (.iconst 0, 1) := by decide +kernel
theorem dL_law_468 : decode cL_law 468 = .ok (.ireturn, 1) := by decide +kernel
theorem dL_law_469 : decode cL_law 469 = .ok (.aload_n 1, 1) := by decide +kernel
theorem dL_law_470 : decode cL_law 470 = .ok (.aload_n 0, 1) := by decide +kernel
theorem dL_law_471 : decode cL_law 471 = .ok (.iload_n 3, 1) := by decide +kernel
theorem dL_law_472 : decode cL_law 472 = .ok (.iconst 1, 1) := by decide +kernel
theorem dL_law_473 : decode cL_law 473 = .ok (.iadd, 1) := by decide +kernel
theorem dL_law_474 : decode cL_law 474 = .ok (.iaload, 1) := by decide +kernel
theorem dL_law_475 : decode cL_law 475 = .ok (.aload_n 0, 1) := by decide +kernel
theorem dL_law_476 : decode cL_law 476 = .ok (.iload_n 3, 1) := by decide +kernel
theorem dL_law_477 : decode cL_law 477 = .ok (.iconst 2, 1) := by decide +kernel
theorem dL_law_478 : decode cL_law 478 = .ok (.iadd, 1) := by decide +kernel
theorem dL_law_479 : decode cL_law 479 = .ok (.iaload, 1) := by decide +kernel
theorem dL_law_480 : decode cL_law 480 = .ok (.aload_n 0, 1) := by decide +kernel
theorem dL_law_481 : decode cL_law 481 = .ok (.iload_n 3, 1) := by decide +kernel
theorem dL_law_482 : decode cL_law 482 = .ok (.iconst 3, 1) := by decide +kernel
theorem dL_law_483 : decode cL_law 483 = .ok (.iadd, 1) := by decide +kernel
theorem dL_law_484 : decode cL_law 484 = .ok (.iaload, 1) := by decide +kernel
theorem dL_law_485 : decode cL_law 485 = .ok (.invokevirtual 47, 3) := by decide +kernel
theorem dL_law_488 : decode cL_law 488 = .ok (.aload_n 2, 1) := by decide +kernel
theorem dL_law_489 : decode cL_law 489 = .ok (.aload_n 0, 1) := by decide +kernel
theorem dL_law_490 : decode cL_law 490 = .ok (.iload_n 3, 1) := by decide +kernel
theorem dL_law_491 : decode cL_law 491 = .ok (.iconst 1, 1) := by decide +kernel
theorem dL_law_492 : decode cL_law 492 = .ok (.iadd, 1) := by decide +kernel
theorem dL_law_493 : decode cL_law 493 = .ok (.iaload, 1) := by decide +kernel
theorem dL_law_494 : decode cL_law 494 = .ok (.aload_n 0, 1) := by decide +kernel
theorem dL_law_495 : decode cL_law 495 = .ok (.iload_n 3, 1) := by decide +kernel
theorem dL_law_496 : decode cL_law 496 = .ok (.iconst 2, 1) := by decide +kernel
theorem dL_law_497 : decode cL_law 497 = .ok (.iadd, 1) := by decide +kernel
theorem dL_law_498 : decode cL_law 498 = .ok (.iaload, 1) := by decide +kernel
theorem dL_law_499 : decode cL_law 499 = .ok (.aload_n 0, 1) := by decide +kernel
theorem dL_law_500 : decode cL_law 500 = .ok (.iload_n 3, 1) := by decide +kernel
theorem dL_law_501 : decode cL_law 501 = .ok (.iconst 3, 1) := by decide +kernel
theorem dL_law_502 : decode cL_law 502 = .ok (.iadd, 1) := by decide +kernel
theorem dL_law_503 : decode cL_law 503 = .ok (.iaload, 1) := by decide +kernel
theorem dL_law_504 : decode cL_law 504 = .ok (.invokevirtual 51, 3) := by decide +kernel
theorem dL_law_507 : decode cL_law 507 = .ok (.if_icmp .eq 763, 3) := by decide +kernel
theorem dL_law_510 : decode cL_law 510 = .ok (.iconst 0, 1) := by decide +kernel
theorem dL_law_511 : decode cL_law 511 = .ok (.ireturn, 1) := by decide +kernel
theorem dL_law_512 : decode cL_law 512 = .ok (.aload_n 1, 1) := by decide +kernel
theorem dL_law_513 : decode cL_law 513 = .ok (.aload_n 0, 1) := by decide +kernel
theorem dL_law_514 : decode cL_law 514 = .ok (.iload_n 3, 1) := by decide +kernel
theorem dL_law_515 : decode cL_law 515 = .ok (.iconst 1, 1) := by decide +kernel
theorem dL_law_516 : decode cL_law 516 = .ok (.iadd, 1) := by decide +kernel
theorem dL_law_517 : decode cL_law 517 = .ok (.iaload, 1) := by decide +kernel
theorem dL_law_518 : decode cL_law 518 = .ok (.aload_n 0, 1) := by decide +kernel
theorem dL_law_519 : decode cL_law 519 = .ok (.iload_n 3, 1) := by decide +kernel
theorem dL_law_520 : decode cL_law 520 = .ok (.iconst 2, 1) := by decide +kernel
theorem dL_law_521 : decode cL_law 521 = .ok (.iadd, 1) := by decide +kernel
theorem dL_law_522 : decode cL_law 522 = .ok (.iaload, 1) := by decide +kernel
theorem dL_law_523 : decode cL_law 523 = .ok (.aload_n 0, 1) := by decide +kernel
theorem dL_law_524 : decode cL_law 524 = .ok (.iload_n 3, 1) := by decide +kernel
theorem dL_law_525 : decode cL_law 525 = .ok (.iconst 3, 1) := by decide +kernel
theorem dL_law_526 : decode cL_law 526 = .ok (.iadd, 1) := by decide +kernel
theorem dL_law_527 : decode cL_law 527 = .ok (.iaload, 1) := by decide +kernel
theorem dL_law_528 : decode cL_law 528 = .ok (.invokevirtual 52, 3) := by decide +kernel
theorem dL_law_531 : decode cL_law 531 = .ok (.aload_n 2, 1) := by decide +kernel
theorem dL_law_532 : decode cL_law 532 = .ok (.aload_n 0, 1) := by decide +kernel
theorem dL_law_533 : decode cL_law 533 = .ok (.iload_n 3, 1) := by decide +kernel
theorem dL_law_534 : decode cL_law 534 = .ok (.iconst 1, 1) := by decide +kernel
theorem dL_law_535 : decode cL_law 535 = .ok (.iadd, 1) := by decide +kernel
theorem dL_law_536 : decode cL_law 536 = .ok (.iaload, 1) := by decide +kernel
theorem dL_law_537 : decode cL_law 537 = .ok (.aload_n 0, 1) := by decide +kernel
theorem dL_law_538 : decode cL_law 538 = .ok (.iload_n 3, 1) := by decide +kernel
theorem dL_law_539 : decode cL_law 539 = .ok (.iconst 2, 1) := by decide +kernel
theorem dL_law_540 : decode cL_law 540 = .ok (.iadd, 1) := by decide +kernel
theorem dL_law_541 : decode cL_law 541 = .ok (.iaload, 1) := by decide +kernel
theorem dL_law_542 : decode cL_law 542 = .ok (.aload_n 0, 1) := by decide +kernel
theorem dL_law_543 : decode cL_law 543 = .ok (.iload_n 3, 1) := by decide +kernel
theorem dL_law_544 : decode cL_law 544 = .ok (.iconst 3, 1) := by decide +kernel
theorem dL_law_545 : decode cL_law 545 = .ok (.iadd, 1) := by decide +kernel
theorem dL_law_546 : decode cL_law 546 = .ok (.iaload, 1) := by decide +kernel
theorem dL_law_547 : decode cL_law 547 = .ok (.invokevirtual 55, 3) := by decide +kernel
theorem dL_law_550 : decode cL_law 550 = .ok (.if_icmp .eq 720, 3) := by decide +kernel
theorem dL_law_553 : decode cL_law 553 = .ok (.iconst 0, 1) := by decide +kernel
theorem dL_law_554 : decode cL_law 554 = .ok (.ireturn, 1) := by decide +kernel
theorem dL_law_555 : decode cL_law 555 = .ok (.aload_n 1, 1) := by decide +kernel
theorem dL_law_556 : decode cL_law 556 = .ok (.aload_n 0, 1) := by decide +kernel
theorem dL_law_557 : decode cL_law 557 = .ok (.iload_n 3, 1) := by decide +kernel
theorem dL_law_558 : decode cL_law 558 = .ok (.iconst 1, 1) := by decide +kernel
theorem dL_law_559 : decode cL_law 559 = .ok (.iadd, 1) := by decide +kernel
theorem dL_law_560 : decode cL_law 560 = .ok (.iaload, 1) := by decide +kernel
theorem dL_law_561 : decode cL_law 561 = .ok (.aload_n 0, 1) := by decide +kernel
theorem dL_law_562 : decode cL_law 562 = .ok (.iload_n 3, 1) := by decide +kernel
theorem dL_law_563 : decode cL_law 563 = .ok (.iconst 2, 1) := by decide +kernel
theorem dL_law_564 : decode cL_law 564 = .ok (.iadd, 1) := by decide +kernel
theorem dL_law_565 : decode cL_law 565 = .ok (.iaload, 1) := by decide +kernel
theorem dL_law_566 : decode cL_law 566 = .ok (.aload_n 0, 1) := by decide +kernel
theorem dL_law_567 : decode cL_law 567 = .ok (.iload_n 3, 1) := by decide +kernel
theorem dL_law_568 : decode cL_law 568 = .ok (.iconst 3, 1) := by decide +kernel
theorem dL_law_569 : decode cL_law 569 = .ok (.iadd, 1) := by decide +kernel
theorem dL_law_570 : decode cL_law 570 = .ok (.iaload, 1) := by decide +kernel
theorem dL_law_571 : decode cL_law 571 = .ok (.aload_n 0, 1) := by decide +kernel
theorem dL_law_572 : decode cL_law 572 = .ok (.iload_n 3, 1) := by decide +kernel
theorem dL_law_573 : decode cL_law 573 = .ok (.iconst 4, 1) := by decide +kernel
theorem dL_law_574 : decode cL_law 574 = .ok (.iadd, 1) := by decide +kernel
theorem dL_law_575 : decode cL_law 575 = .ok (.iaload, 1) := by decide +kernel
theorem dL_law_576 : decode cL_law 576 = .ok (.invokevirtual 56, 3) := by decide +kernel
theorem dL_law_579 : decode cL_law 579 = .ok (.aload_n 2, 1) := by decide +kernel
theorem dL_law_580 : decode cL_law 580 = .ok (.aload_n 0, 1) := by decide +kernel
theorem dL_law_581 : decode cL_law 581 = .ok (.iload_n 3, 1) := by decide +kernel
theorem dL_law_582 : decode cL_law 582 = .ok (.iconst 1, 1) := by decide +kernel
theorem dL_law_583 : decode cL_law 583 = .ok (.iadd, 1) := by decide +kernel
theorem dL_law_584 : decode cL_law 584 = .ok (.iaload, 1) := by decide +kernel
theorem dL_law_585 : decode cL_law 585 = .ok (.aload_n 0, 1) := by decide +kernel
theorem dL_law_586 : decode cL_law 586 = .ok (.iload_n 3, 1) := by decide +kernel
theorem dL_law_587 : decode cL_law 587 = .ok (.iconst 2, 1) := by decide +kernel
theorem dL_law_588 : decode cL_law 588 = .ok (.iadd, 1) := by decide +kernel
theorem dL_law_589 : decode cL_law 589 = .ok (.iaload, 1) := by decide +kernel
theorem dL_law_590 : decode cL_law 590 = .ok (.aload_n 0, 1) := by decide +kernel
theorem dL_law_591 : decode cL_law 591 = .ok (.iload_n 3, 1) := by decide +kernel
theorem dL_law_592 : decode cL_law 592 = .ok (.iconst 3, 1) := by decide +kernel
theorem dL_law_593 : decode cL_law 593 = .ok (.iadd, 1) := by decide +kernel
theorem dL_law_594 : decode cL_law 594 = .ok (.iaload, 1) := by decide +kernel
theorem dL_law_595 : decode cL_law 595 = .ok (.aload_n 0, 1) := by decide +kernel
theorem dL_law_596 : decode cL_law 596 = .ok (.iload_n 3, 1) := by decide +kernel
theorem dL_law_597 : decode cL_law 597 = .ok (.iconst 4, 1) := by decide +kernel
theorem dL_law_598 : decode cL_law 598 = .ok (.iadd, 1) := by decide +kernel
theorem dL_law_599 : decode cL_law 599 = .ok (.iaload, 1) := by decide +kernel
theorem dL_law_600 : decode cL_law 600 = .ok (.invokevirtual 59, 3) := by decide +kernel
theorem dL_law_603 : decode cL_law 603 = .ok (.if_icmp .eq 667, 3) := by decide +kernel
theorem dL_law_606 : decode cL_law 606 = .ok (.iconst 0, 1) := by decide +kernel
theorem dL_law_607 : decode cL_law 607 = .ok (.ireturn, 1) := by decide +kernel
theorem dL_law_608 : decode cL_law 608 = .ok (.aload_n 1, 1) := by decide +kernel
theorem dL_law_609 : decode cL_law 609 = .ok (.aload_n 0, 1) := by decide +kernel
theorem dL_law_610 : decode cL_law 610 = .ok (.iload_n 3, 1) := by decide +kernel
theorem dL_law_611 : decode cL_law 611 = .ok (.iconst 1, 1) := by decide +kernel
theorem dL_law_612 : decode cL_law 612 = .ok (.iadd, 1) := by decide +kernel
theorem dL_law_613 : decode cL_law 613 = .ok (.iaload, 1) := by decide +kernel
theorem dL_law_614 : decode cL_law 614 = .ok (.aload_n 0, 1) := by decide +kernel
theorem dL_law_615 : decode cL_law 615 = .ok (.iload_n 3, 1) := by decide +kernel
theorem dL_law_616 : decode cL_law 616 = .ok (.iconst 2, 1) := by decide +kernel
theorem dL_law_617 : decode cL_law 617 = .ok (.iadd, 1) := by decide +kernel
theorem dL_law_618 : decode cL_law 618 = .ok (.iaload, 1) := by decide +kernel
theorem dL_law_619 : decode cL_law 619 = .ok (.aload_n 0, 1) := by decide +kernel
theorem dL_law_620 : decode cL_law 620 = .ok (.iload_n 3, 1) := by decide +kernel
theorem dL_law_621 : decode cL_law 621 = .ok (.iconst 3, 1) := by decide +kernel
theorem dL_law_622 : decode cL_law 622 = .ok (.iadd, 1) := by decide +kernel
theorem dL_law_623 : decode cL_law 623 = .ok (.iaload, 1) := by decide +kernel
theorem dL_law_624 : decode cL_law 624 = .ok (.aload_n 0, 1) := by decide +kernel
theorem dL_law_625 : decode cL_law 625 = .ok (.iload_n 3, 1) := by decide +kernel
theorem dL_law_626 : decode cL_law 626 = .ok (.iconst 4, 1) := by decide +kernel
theorem dL_law_627 : decode cL_law 627 = .ok (.iadd, 1) := by decide +kernel
theorem dL_law_628 : decode cL_law 628 = .ok (.iaload, 1) := by decide +kernel
theorem dL_law_629 : decode cL_law 629 = .ok (.invokevirtual 60, 3) := by decide +kernel
theorem dL_law_632 : decode cL_law 632 = .ok (.aload_n 2, 1) := by decide +kernel
theorem dL_law_633 : decode cL_law 633 = .ok (.aload_n 0, 1) := by decide +kernel
theorem dL_law_634 : decode cL_law 634 = .ok (.iload_n 3, 1) := by decide +kernel
theorem dL_law_635 : decode cL_law 635 = .ok (.iconst 1, 1) := by decide +kernel
theorem dL_law_636 : decode cL_law 636 = .ok (.iadd, 1) := by decide +kernel
theorem dL_law_637 : decode cL_law 637 = .ok (.iaload, 1) := by decide +kernel
theorem dL_law_638 : decode cL_law 638 = .ok (.aload_n 0, 1) := by decide +kernel
theorem dL_law_639 : decode cL_law 639 = .ok (.iload_n 3, 1) := by decide +kernel
theorem dL_law_640 : decode cL_law 640 = .ok (.iconst 2, 1) := by decide +kernel
theorem dL_law_641 : decode cL_law 641 = .ok (.iadd, 1) := by decide +kernel
theorem dL_law_642 : decode cL_law 642 = .ok (.iaload, 1) := by decide +kernel
theorem dL_law_643 : decode cL_law 643 = .ok (.aload_n 0, 1) := by decide +kernel
theorem dL_law_644 : decode cL_law 644 = .ok (.iload_n 3, 1) := by decide +kernel
theorem dL_law_645 : decode cL_law 645 = .ok (.iconst 3, 1) := by decide +kernel
theorem dL_law_646 : decode cL_law 646 = .ok (.iadd, 1) := by decide +kernel
theorem dL_law_647 : decode cL_law 647 = .ok (.iaload, 1) := by decide +kernel
theorem dL_law_648 : decode cL_law 648 = .ok (.aload_n 0, 1) := by decide +kernel
theorem dL_law_649 : decode cL_law 649 = .ok (.iload_n 3, 1) := by decide +kernel
theorem dL_law_650 : decode cL_law 650 = .ok (.iconst 4, 1) := by decide +kernel
theorem dL_law_651 : decode cL_law 651 = .ok (.iadd, 1) := by decide +kernel
theorem dL_law_652 : decode cL_law 652 = .ok (.iaload, 1) := by decide +kernel
theorem dL_law_653 : decode cL_law 653 = .ok (.invokevirtual 63, 3) := by decide +kernel
theorem dL_law_656 : decode cL_law 656 = .ok (.if_icmp .eq 614, 3) := by decide +kernel
theorem dL_law_659 : decode cL_law 659 = .ok (.iconst 0, 1) := by decide +kernel
theorem dL_law_660 : decode cL_law 660 = .ok (.ireturn, 1) := by decide +kernel
theorem dL_law_661 : decode cL_law 661 = .ok (.aload_n 1, 1) := by decide +kernel
theorem dL_law_662 : decode cL_law 662 = .ok (.aload_n 0, 1) := by decide +kernel
theorem dL_law_663 : decode cL_law 663 = .ok (.iload_n 3, 1) := by decide +kernel
theorem dL_law_664 : decode cL_law 664 = .ok (.iconst 1, 1) := by decide +kernel
theorem dL_law_665 : decode cL_law 665 = .ok (.iadd, 1) := by decide +kernel
theorem dL_law_666 : decode cL_law 666 = .ok (.iaload, 1) := by decide +kernel
theorem dL_law_667 : decode cL_law 667 = .ok (.aload_n 0, 1) := by decide +kernel
theorem dL_law_668 : decode cL_law 668 = .ok (.iload_n 3, 1) := by decide +kernel
theorem dL_law_669 : decode cL_law 669 = .ok (.iconst 2, 1) := by decide +kernel
theorem dL_law_670 : decode cL_law 670 = .ok (.iadd, 1) := by decide +kernel
theorem dL_law_671 : decode cL_law 671 = .ok (.iaload, 1) := by decide +kernel
theorem dL_law_672 : decode cL_law 672 = .ok (.aload_n 0, 1) := by decide +kernel
theorem dL_law_673 : decode cL_law 673 = .ok (.iload_n 3, 1) := by decide +kernel
theorem dL_law_674 : decode cL_law 674 = .ok (.iconst 3, 1) := by decide +kernel
theorem dL_law_675 : decode cL_law 675 = .ok (.iadd, 1) := by decide +kernel
theorem dL_law_676 : decode cL_law 676 = .ok (.iaload, 1) := by decide +kernel
theorem dL_law_677 : decode cL_law 677 = .ok (.invokevirtual 64, 3) := by decide +kernel
theorem dL_law_680 : decode cL_law 680 = .ok (.aload_n 2, 1) := by decide +kernel
theorem dL_law_681 : decode cL_law 681 = .ok (.aload_n 0, 1) := by decide +kernel
theorem dL_law_682 : decode cL_law 682 = .ok (.iload_n 3, 1) := by decide +kernel
theorem dL_law_683 : decode cL_law 683 = .ok (.iconst 1, 1) := by decide +kernel
theorem dL_law_684 : decode cL_law 684 = .ok (.iadd, 1) := by decide +kernel
theorem dL_law_685 : decode cL_law 685 = .ok (.iaload, 1) := by decide +kernel
theorem dL_law_686 : decode cL_law 686 = .ok (.aload_n 0, 1) := by decide +kernel
theorem dL_law_687 : decode cL_law 687 = .ok (.iload_n 3, 1) := by decide +kernel
theorem dL_law_688 : decode cL_law 688 = .ok (.iconst 2, 1) := by decide +kernel
theorem dL_law_689 : decode cL_law 689 = .ok (.iadd, 1) := by decide +kernel
theorem dL_law_690 : decode cL_law 690 = .ok (.iaload, 1) := by decide +kernel
theorem dL_law_691 : decode cL_law 691 = .ok (.aload_n 0, 1) := by decide +kernel
theorem dL_law_692 : decode cL_law 692 = .ok (.iload_n 3, 1) := by decide +kernel
theorem dL_law_693 : decode cL_law 693 = .ok (.iconst 3, 1) := by decide +kernel
theorem dL_law_694 : decode cL_law 694 = .ok (.iadd, 1) := by decide +kernel
theorem dL_law_695 : decode cL_law 695 = .ok (.iaload, 1) := by decide +kernel
theorem dL_law_696 : decode cL_law 696 = .ok (.invokevirtual 67, 3) := by decide +kernel
theorem dL_law_699 : decode cL_law 699 = .ok (.if_icmp .eq 571, 3) := by decide +kernel
theorem dL_law_702 : decode cL_law 702 = .ok (.iconst 0, 1) := by decide +kernel
theorem dL_law_703 : decode cL_law 703 = .ok (.ireturn, 1) := by decide +kernel
theorem dL_law_704 : decode cL_law 704 = .ok (.aload_n 1, 1) := by decide +kernel
theorem dL_law_705 : decode cL_law 705 = .ok (.aload_n 0, 1) := by decide +kernel
theorem dL_law_706 : decode cL_law 706 = .ok (.iload_n 3, 1) := by decide +kernel
theorem dL_law_707 : decode cL_law 707 = .ok (.iconst 1, 1) := by decide +kernel
theorem dL_law_708 : decode cL_law 708 = .ok (.iadd, 1) := by decide +kernel
theorem dL_law_709 : decode cL_law 709 = .ok (.iaload, 1) := by decide +kernel
theorem dL_law_710 : decode cL_law 710 = .ok (.aload_n 0, 1) := by decide +kernel
theorem dL_law_711 : decode cL_law 711 = .ok (.iload_n 3, 1) := by decide +kernel
theorem dL_law_712 : decode cL_law 712 = .ok (.iconst 2, 1) := by decide +kernel
theorem dL_law_713 : decode cL_law 713 = .ok (.iadd, 1) := by decide +kernel
theorem dL_law_714 : decode cL_law 714 = .ok (.iaload, 1) := by decide +kernel
theorem dL_law_715 : decode cL_law 715 = .ok (.invokevirtual 68, 3) := by decide +kernel
theorem dL_law_718 : decode cL_law 718 = .ok (.aload_n 2, 1) := by decide +kernel
theorem dL_law_719 : decode cL_law 719 = .ok (.aload_n 0, 1) := by decide +kernel
theorem dL_law_720 : decode cL_law 720 = .ok (.iload_n 3, 1) := by decide +kernel
theorem dL_law_721 : decode cL_law 721 = .ok (.iconst 1, 1) := by decide +kernel
theorem dL_law_722 : decode cL_law 722 = .ok (.iadd, 1) := by decide +kernel
theorem dL_law_723 : decode cL_law 723 = .ok (.iaload, 1) := by decide +kernel
theorem dL_law_724 : decode cL_law 724 = .ok (.aload_n 0, 1) := by decide +kernel
theorem dL_law_725 : decode cL_law 725 = .ok (.iload_n 3, 1) := by decide +kernel
theorem dL_law_726 : decode cL_law 726 = .ok (.iconst 2, 1) := by decide +kernel
theorem dL_law_727 : decode cL_law 727 = .ok (.iadd, 1) := by decide +kernel
theorem dL_law_728 : decode cL_law 728 = .ok (.iaload, 1) := by decide +kernel
theorem dL_law_729 : decode cL_law 729 = .ok (.invokevirtual 71, 3) := by decide +kernel
theorem dL_law_732 : decode cL_law 732 = .ok (.if_icmp .eq 538, 3) := by decide +kernel
theorem dL_law_735 : decode cL_law 735 = .ok (.iconst 0, 1) := by decide +kernel
theorem dL_law_736 : decode cL_law 736 = .ok (.ireturn, 1) := by decide +kernel
theorem dL_law_737 : decode cL_law 737 = .ok (.aload_n 1, 1) := by decide +kernel
theorem dL_law_738 : decode cL_law 738 = .ok (.aload_n 0, 1) := by decide +kernel
theorem dL_law_739 : decode cL_law 739 = .ok (.iload_n 3, 1) := by decide +kernel
theorem dL_law_740 : decode cL_law 740 = .ok (.iconst 1, 1) := by decide +kernel
theorem dL_law_741 : decode cL_law 741 = .ok (.iadd, 1) := by decide +kernel
theorem dL_law_742 : decode cL_law 742 = .ok (.iaload, 1) := by decide +kernel
theorem dL_law_743 : decode cL_law 743 = .ok (.aload_n 0, 1) := by decide +kernel
theorem dL_law_744 : decode cL_law 744 = .ok (.iload_n 3, 1) := by decide +kernel
theorem dL_law_745 : decode cL_law 745 = .ok (.iconst 2, 1) := by decide +kernel
theorem dL_law_746 : decode cL_law 746 = .ok (.iadd, 1) := by decide +kernel
theorem dL_law_747 : decode cL_law 747 = .ok (.iaload, 1) := by decide +kernel
theorem dL_law_748 : decode cL_law 748 = .ok (.aload_n 0, 1) := by decide +kernel
theorem dL_law_749 : decode cL_law 749 = .ok (.iload_n 3, 1) := by decide +kernel
theorem dL_law_750 : decode cL_law 750 = .ok (.iconst 3, 1) := by decide +kernel
theorem dL_law_751 : decode cL_law 751 = .ok (.iadd, 1) := by decide +kernel
theorem dL_law_752 : decode cL_law 752 = .ok (.iaload, 1) := by decide +kernel
theorem dL_law_753 : decode cL_law 753 = .ok (.invokevirtual 72, 3) := by decide +kernel
theorem dL_law_756 : decode cL_law 756 = .ok (.aload_n 2, 1) := by decide +kernel
theorem dL_law_757 : decode cL_law 757 = .ok (.aload_n 0, 1) := by decide +kernel
theorem dL_law_758 : decode cL_law 758 = .ok (.iload_n 3, 1) := by decide +kernel
theorem dL_law_759 : decode cL_law 759 = .ok (.iconst 1, 1) := by decide +kernel
theorem dL_law_760 : decode cL_law 760 = .ok (.iadd, 1) := by decide +kernel
theorem dL_law_761 : decode cL_law 761 = .ok (.iaload, 1) := by decide +kernel
theorem dL_law_762 : decode cL_law 762 = .ok (.aload_n 0, 1) := by decide +kernel
theorem dL_law_763 : decode cL_law 763 = .ok (.iload_n 3, 1) := by decide +kernel
theorem dL_law_764 : decode cL_law 764 = .ok (.iconst 2, 1) := by decide +kernel
theorem dL_law_765 : decode cL_law 765 = .ok (.iadd, 1) := by decide +kernel
theorem dL_law_766 : decode cL_law 766 = .ok (.iaload, 1) := by decide +kernel
theorem dL_law_767 : decode cL_law 767 = .ok (.aload_n 0, 1) := by decide +kernel
theorem dL_law_768 : decode cL_law 768 = .ok (.iload_n 3, 1) := by decide +kernel
theorem dL_law_769 : decode cL_law 769 = .ok (.iconst 3, 1) := by decide +kernel
theorem dL_law_770 : decode cL_law 770 = .ok (.iadd, 1) := by decide +kernel
theorem dL_law_771 : decode cL_law 771 = .ok (.iaload, 1) := by decide +kernel
theorem dL_law_772 : decode cL_law 772 = .ok (.invokevirtual 75, 3) := by decide +kernel
theorem dL_law_775 : decode cL_law 775 = .ok (.if_icmp .eq 495, 3) := by decide +kernel
theorem dL_law_778 : decode cL_law 778 = .ok (.iconst 0, 1) := by decide +kernel
theorem dL_law_779 : decode cL_law 779 = .ok (.ireturn, 1) := by decide +kernel
theorem dL_law_780 : decode cL_law 780 = .ok (.aload_n 1, 1) := by decide +kernel
theorem dL_law_781 : decode cL_law 781 = .ok (.aload_n 0, 1) := by decide +kernel
theorem dL_law_782 : decode cL_law 782 = .ok (.iload_n 3, 1) := by decide +kernel
theorem dL_law_783 : decode cL_law 783 = .ok (.iconst 1, 1) := by decide +kernel
theorem dL_law_784 : decode cL_law 784 = .ok (.iadd, 1) := by decide +kernel
theorem dL_law_785 : decode cL_law 785 = .ok (.iaload, 1) := by decide +kernel
theorem dL_law_786 : decode cL_law 786 = .ok (.aload_n 0, 1) := by decide +kernel
theorem dL_law_787 : decode cL_law 787 = .ok (.iload_n 3, 1) := by decide +kernel
theorem dL_law_788 : decode cL_law 788 = .ok (.iconst 2, 1) := by decide +kernel
theorem dL_law_789 : decode cL_law 789 = .ok (.iadd, 1) := by decide +kernel
theorem dL_law_790 : decode cL_law 790 = .ok (.iaload, 1) := by decide +kernel
theorem dL_law_791 : decode cL_law 791 = .ok (.invokevirtual 76, 3) := by decide +kernel
theorem dL_law_794 : decode cL_law 794 = .ok (.aload_n 2, 1) := by decide +kernel
theorem dL_law_795 : decode cL_law 795 = .ok (.aload_n 0, 1) := by decide +kernel
theorem dL_law_796 : decode cL_law 796 = .ok (.iload_n 3, 1) := by decide +kernel
theorem dL_law_797 : decode cL_law 797 = .ok (.iconst 1, 1) := by decide +kernel
theorem dL_law_798 : decode cL_law 798 = .ok (.iadd, 1) := by decide +kernel
theorem dL_law_799 : decode cL_law 799 = .ok (.iaload, 1) := by decide +kernel
theorem dL_law_800 : decode cL_law 800 = .ok (.aload_n 0, 1) := by decide +kernel
theorem dL_law_801 : decode cL_law 801 = .ok (.iload_n 3, 1) := by decide +kernel
theorem dL_law_802 : decode cL_law 802 = .ok (.iconst 2, 1) := by decide +kernel
theorem dL_law_803 : decode cL_law 803 = .ok (.iadd, 1) := by decide +kernel
theorem dL_law_804 : decode cL_law 804 = .ok (.iaload, 1) := by decide +kernel
theorem dL_law_805 : decode cL_law 805 = .ok (.invokevirtual 79, 3) := by decide +kernel
theorem dL_law_808 : decode cL_law 808 = .ok (.if_icmp .eq 462, 3) := by decide +kernel
theorem dL_law_811 : decode cL_law 811 = .ok (.iconst 0, 1) := by decide +kernel
theorem dL_law_812 : decode cL_law 812 = .ok (.ireturn, 1) := by decide +kernel
theorem dL_law_813 : decode cL_law 813 = .ok (.aload_n 1, 1) := by decide +kernel
theorem dL_law_814 : decode cL_law 814 = .ok (.aload_n 0, 1) := by decide +kernel
theorem dL_law_815 : decode cL_law 815 = .ok (.iload_n 3, 1) := by decide +kernel
theorem dL_law_816 : decode cL_law 816 = .ok (.iconst 1, 1) := by decide +kernel
theorem dL_law_817 : decode cL_law 817 = .ok (.iadd, 1) := by decide +kernel
theorem dL_law_818 : decode cL_law 818 = .ok (.iaload, 1) := by decide +kernel
theorem dL_law_819 : decode cL_law 819 = .ok (.aload_n 0, 1) := by decide +kernel
theorem dL_law_820 : decode cL_law 820 = .ok (.iload_n 3, 1) := by decide +kernel
theorem dL_law_821 : decode cL_law 821 = .ok (.iconst 2, 1) := by decide +kernel
theorem dL_law_822 : decode cL_law 822 = .ok (.iadd, 1) := by decide +kernel
theorem dL_law_823 : decode cL_law 823 = .ok (.iaload, 1) := by decide +kernel
theorem dL_law_824 : decode cL_law 824 = .ok (.invokevirtual 80, 3) := by decide +kernel
theorem dL_law_827 : decode cL_law 827 = .ok (.aload_n 2, 1) := by decide +kernel
theorem dL_law_828 : decode cL_law 828 = .ok (.aload_n 0, 1) := by decide +kernel
theorem dL_law_829 : decode cL_law 829 = .ok (.iload_n 3, 1) := by decide +kernel
theorem dL_law_830 : decode cL_law 830 = .ok (.iconst 1, 1) := by decide +kernel
theorem dL_law_831 : decode cL_law 831 = .ok (.iadd, 1) := by decide +kernel
theorem dL_law_832 : decode cL_law 832 = .ok (.iaload, 1) := by decide +kernel
theorem dL_law_833 : decode cL_law 833 = .ok (.aload_n 0, 1) := by decide +kernel
theorem dL_law_834 : decode cL_law 834 = .ok (.iload_n 3, 1) := by decide +kernel
theorem dL_law_835 : decode cL_law 835 = .ok (.iconst 2, 1) := by decide +kernel
theorem dL_law_836 : decode cL_law 836 = .ok (.iadd, 1) := by decide +kernel
theorem dL_law_837 : decode cL_law 837 = .ok (.iaload, 1) := by decide +kernel
theorem dL_law_838 : decode cL_law 838 = .ok (.invokevirtual 83, 3) := by decide +kernel
theorem dL_law_841 : decode cL_law 841 = .ok (.if_icmp .eq 429, 3) := by decide +kernel
theorem dL_law_844 : decode cL_law 844 = .ok (.iconst 0, 1) := by decide +kernel
theorem dL_law_845 : decode cL_law 845 = .ok (.ireturn, 1) := by decide +kernel
theorem dL_law_846 : decode cL_law 846 = .ok (.aload_n 1, 1) := by decide +kernel
theorem dL_law_847 : decode cL_law 847 = .ok (.aload_n 0, 1) := by decide +kernel
theorem dL_law_848 : decode cL_law 848 = .ok (.iload_n 3, 1) := by decide +kernel
theorem dL_law_849 : decode cL_law 849 = .ok (.iconst 1, 1) := by decide +kernel
theorem dL_law_850 : decode cL_law 850 = .ok (.iadd, 1) := by decide +kernel
theorem dL_law_851 : decode cL_law 851 = .ok (.iaload, 1) := by decide +kernel
theorem dL_law_852 : decode cL_law 852 = .ok (.aload_n 0, 1) := by decide +kernel
theorem dL_law_853 : decode cL_law 853 = .ok (.iload_n 3, 1) := by decide +kernel
theorem dL_law_854 : decode cL_law 854 = .ok (.iconst 2, 1) := by decide +kernel
theorem dL_law_855 : decode cL_law 855 = .ok (.iadd, 1) := by decide +kernel
theorem dL_law_856 : decode cL_law 856 = .ok (.iaload, 1) := by decide +kernel
theorem dL_law_857 : decode cL_law 857 = .ok (.invokevirtual 84, 3) := by decide +kernel
theorem dL_law_860 : decode cL_law 860 = .ok (.aload_n 2, 1) := by decide +kernel
theorem dL_law_861 : decode cL_law 861 = .ok (.aload_n 0, 1) := by decide +kernel
theorem dL_law_862 : decode cL_law 862 = .ok (.iload_n 3, 1) := by decide +kernel
theorem dL_law_863 : decode cL_law 863 = .ok (.iconst 1, 1) := by decide +kernel
theorem dL_law_864 : decode cL_law 864 = .ok (.iadd, 1) := by decide +kernel
theorem dL_law_865 : decode cL_law 865 = .ok (.iaload, 1) := by decide +kernel
theorem dL_law_866 : decode cL_law 866 = .ok (.aload_n 0, 1) := by decide +kernel
theorem dL_law_867 : decode cL_law 867 = .ok (.iload_n 3, 1) := by decide +kernel
theorem dL_law_868 : decode cL_law 868 = .ok (.iconst 2, 1) := by decide +kernel
theorem dL_law_869 : decode cL_law 869 = .ok (.iadd, 1) := by decide +kernel
theorem dL_law_870 : decode cL_law 870 = .ok (.iaload, 1) := by decide +kernel
theorem dL_law_871 : decode cL_law 871 = .ok (.invokevirtual 87, 3) := by decide +kernel
theorem dL_law_874 : decode cL_law 874 = .ok (.if_icmp .eq 396, 3) := by decide +kernel
theorem dL_law_877 : decode cL_law 877 = .ok (.iconst 0, 1) := by decide +kernel
theorem dL_law_878 : decode cL_law 878 = .ok (.ireturn, 1) := by decide +kernel
theorem dL_law_879 : decode cL_law 879 = .ok (.aload_n 1, 1) := by decide +kernel
theorem dL_law_880 : decode cL_law 880 = .ok (.aload_n 0, 1) := by decide +kernel
theorem dL_law_881 : decode cL_law 881 = .ok (.iload_n 3, 1) := by decide +kernel
theorem dL_law_882 : decode cL_law 882 = .ok (.iconst 1, 1) := by decide +kernel
theorem dL_law_883 : decode cL_law 883 = .ok (.iadd, 1) := by decide +kernel
theorem dL_law_884 : decode cL_law 884 = .ok (.iaload, 1) := by decide +kernel
theorem dL_law_885 : decode cL_law 885 = .ok (.invokevirtual 88, 3) := by decide +kernel
theorem dL_law_888 : decode cL_law 888 = .ok (.aload_n 2, 1) := by decide +kernel
theorem dL_law_889 : decode cL_law 889 = .ok (.aload_n 0, 1) := by decide +kernel
theorem dL_law_890 : decode cL_law 890 = .ok (.iload_n 3, 1) := by decide +kernel
theorem dL_law_891 : decode cL_law 891 = .ok (.iconst 1, 1) := by decide +kernel
theorem dL_law_892 : decode cL_law 892 = .ok (.iadd, 1) := by decide +kernel
theorem dL_law_893 : decode cL_law 893 = .ok (.iaload, 1) := by decide +kernel
theorem dL_law_894 : decode cL_law 894 = .ok (.invokevirtual 91, 3) := by decide +kernel
theorem dL_law_897 : decode cL_law 897 = .ok (.if_icmp .eq 373, 3) := by decide +kernel
theorem dL_law_900 : decode cL_law 900 = .ok (.iconst 0, 1) := by decide +kernel
theorem dL_law_901 : decode cL_law 901 = .ok (.ireturn, 1) := by decide +kernel
theorem dL_law_902 : decode cL_law 902 = .ok (.aload_n 1, 1) := by decide +kernel
theorem dL_law_903 : decode cL_law 903 = .ok (.aload_n 0, 1) := by decide +kernel
theorem dL_law_904 : decode cL_law 904 = .ok (.iload_n 3, 1) := by decide +kernel
theorem dL_law_905 : decode cL_law 905 = .ok (.iconst 1, 1) := by decide +kernel
theorem dL_law_906 : decode cL_law 906 = .ok (.iadd, 1) := by decide +kernel
theorem dL_law_907 : decode cL_law 907 = .ok (.iaload, 1) := by decide +kernel
theorem dL_law_908 : decode cL_law 908 = .ok (.invokevirtual 92, 3) := by decide +kernel
theorem dL_law_911 : decode cL_law 911 = .ok (.aload_n 2, 1) := by decide +kernel
theorem dL_law_912 : decode cL_law 912 = .ok (.aload_n 0, 1) := by decide +kernel
theorem dL_law_913 : decode cL_law 913 = .ok (.iload_n 3, 1) := by decide +kernel
theorem dL_law_914 : decode cL_law 914 = .ok (.iconst 1, 1) := by decide +kernel
theorem dL_law_915 : decode cL_law 915 = .ok (.iadd, 1) := by decide +kernel
theorem dL_law_916 : decode cL_law 916 = .ok (.iaload, 1) := by decide +kernel
theorem dL_law_917 : decode cL_law 917 = .ok (.invokevirtual 95, 3) := by decide +kernel
theorem dL_law_920 : decode cL_law 920 = .ok (.if_icmp .eq 350, 3) := by decide +kernel
theorem dL_law_923 : decode cL_law 923 = .ok (.iconst 0, 1) := by decide +kernel
theorem dL_law_924 : decode cL_law 924 = .ok (.ireturn, 1) := by decide +kernel
theorem dL_law_925 : decode cL_law 925 = .ok (.aload_n 1, 1) := by decide +kernel
theorem dL_law_926 : decode cL_law 926 = .ok (.aload_n 0, 1) := by decide +kernel
theorem dL_law_927 : decode cL_law 927 = .ok (.iload_n 3, 1) := by decide +kernel
theorem dL_law_928 : decode cL_law 928 = .ok (.iconst 1, 1) := by decide +kernel
theorem dL_law_929 : decode cL_law 929 = .ok (.iadd, 1) := by decide +kernel
theorem dL_law_930 : decode cL_law 930 = .ok (.iaload, 1) := by decide +kernel
theorem dL_law_931 : decode cL_law 931 = .ok (.aload_n 0, 1) := by decide +kernel
theorem dL_law_932 : decode cL_law 932 = .ok (.iload_n 3, 1) := by decide +kernel
theorem dL_law_933 : decode cL_law 933 = .ok (.iconst 2, 1) := by decide +kernel
theorem dL_law_934 : decode cL_law 934 = .ok (.iadd, 1) := by decide +kernel
theorem dL_law_935 : decode cL_law 935 = .ok (.iaload, 1) := by decide +kernel
theorem dL_law_936 : decode cL_law 936 = .ok (.invokevirtual 96, 3) := by decide +kernel
theorem dL_law_939 : decode cL_law 939 = .ok (.aload_n 2, 1) := by decide +kernel
theorem dL_law_940 : decode cL_law 940 = .ok (.aload_n 0, 1) := by decide +kernel
theorem dL_law_941 : decode cL_law 941 = .ok (.iload_n 3, 1) := by decide +kernel
theorem dL_law_942 : decode cL_law 942 = .ok (.iconst 1, 1) := by decide +kernel
theorem dL_law_943 : decode cL_law 943 = .ok (.iadd, 1) := by decide +kernel
theorem dL_law_944 : decode cL_law 944 = .ok (.iaload, 1) := by decide +kernel
theorem dL_law_945 : decode cL_law 945 = .ok (.aload_n 0, 1) := by decide +kernel
theorem dL_law_946 : decode cL_law 946 = .ok (.iload_n 3, 1) := by decide +kernel
theorem dL_law_947 : decode cL_law 947 = .ok (.iconst 2, 1) := by decide +kernel
theorem dL_law_948 : decode cL_law 948 = .ok (.iadd, 1) := by decide +kernel
theorem dL_law_949 : decode cL_law 949 = .ok (.iaload, 1) := by decide +kernel
theorem dL_law_950 : decode cL_law 950 = .ok (.invokevirtual 99, 3) := by decide +kernel
theorem dL_law_953 : decode cL_law 953 = .ok (.if_icmp .eq 317, 3) := by decide +kernel
theorem dL_law_956 : decode cL_law 956 = .ok (.iconst 0, 1) := by decide +kernel
theorem dL_law_957 : decode cL_law 957 = .ok (.ireturn, 1) := by decide +kernel
theorem dL_law_958 : decode cL_law 958 = .ok (.aload_n 1, 1) := by decide +kernel
theorem dL_law_959 : decode cL_law 959 = .ok (.aload_n 0, 1) := by decide +kernel
theorem dL_law_960 : decode cL_law 960 = .ok (.iload_n 3, 1) := by decide +kernel
theorem dL_law_961 : decode cL_law 961 = .ok (.iconst 1, 1) := by decide +kernel
theorem dL_law_962 : decode cL_law 962 = .ok (.iadd, 1) := by decide +kernel
theorem dL_law_963 : decode cL_law 963 = .ok (.iaload, 1) := by decide +kernel
theorem dL_law_964 : decode cL_law 964 = .ok (.aload_n 0, 1) := by decide +kernel
theorem dL_law_965 : decode cL_law 965 = .ok (.iload_n 3, 1) := by decide +kernel
theorem dL_law_966 : decode cL_law 966 = .ok (.iconst 2, 1) := by decide +kernel
theorem dL_law_967 : decode cL_law 967 = .ok (.iadd, 1) := by decide +kernel
theorem dL_law_968 : decode cL_law 968 = .ok (.iaload, 1) := by decide +kernel
theorem dL_law_969 : decode cL_law 969 = .ok (.aload_n 0, 1) := by decide +kernel
theorem dL_law_970 : decode cL_law 970 = .ok (.iload_n 3, 1) := by decide +kernel
theorem dL_law_971 : decode cL_law 971 = .ok (.iconst 3, 1) := by decide +kernel
end
section
theorem dL_law_972 : decode cL_law 972 = .ok (.iadd, 1) := by decide +kernel
theorem dL_law_973 : decode cL_law 973 = .ok (.iaload, 1) := by decide +kernel
theorem dL_law_974 : decode cL_law 974 = .ok (.invokevirtual 100, 3) := by decide +kernel
theorem dL_law_977 : decode cL_law 977 = .ok (.aload_n 2, 1) := by decide +kernel
theorem dL_law_978 : decode cL_law 978 = .ok (.aload_n 0, 1) := by decide +kernel
theorem dL_law_979 : decode cL_law 979 = .ok (.iload_n 3, 1) := by decide +kernel
theorem dL_law_980 : decode cL_law 980 = .ok (.iconst 1, 1) := by decide +kernel
theorem dL_law_981 : decode cL_law 981 = .ok (.iadd, 1) := by decide +kernel
theorem dL_law_982 : decode cL_law 982 = .ok (.iaload, 1) := by decide +kernel
theorem dL_law_983 : decode cL_law 983 = .ok (.aload_n 0, 1) := by decide +kernel
theorem dL_law_984 : decode cL_law 984 = .ok (.iload_n 3, 1) := by decide +kernel
theorem dL_law_985 : decode cL_law 985 = .ok (.iconst 2, 1) := by decide +kernel
theorem dL_law_986 : decode cL_law 986 = .ok (.iadd, 1) := by decide +kernel
theorem dL_law_987 : decode cL_law 987 = .ok (.iaload, 1) := by decide +kernel
theorem dL_law_988 : decode cL_law 988 = .ok (.aload_n 0, 1) := by decide +kernel
theorem dL_law_989 : decode cL_law 989 = .ok (.iload_n 3, 1) := by decide +kernel
theorem dL_law_990 : decode cL_law 990 = .ok (.iconst 3, 1) := by decide +kernel
theorem dL_law_991 : decode cL_law 991 = .ok (.iadd, 1) := by decide +kernel
theorem dL_law_992 : decode cL_law 992 = .ok (.iaload, 1) := by decide +kernel
theorem dL_law_993 : decode cL_law 993 = .ok (.invokevirtual 103, 3) := by decide +kernel
theorem dL_law_996 : decode cL_law 996 = .ok (.if_icmp .eq 274, 3) := by decide +kernel
theorem dL_law_999 : decode cL_law 999 = .ok (.iconst 0, 1) := by decide +kernel
theorem dL_law_1000 : decode cL_law 1000 = .ok (.ireturn, 1) := by decide +kernel
theorem dL_law_1001 : decode cL_law 1001 = .ok (.aload_n 1, 1) := by decide +kernel
theorem dL_law_1002 : decode cL_law 1002 = .ok (.aload_n 0, 1) := by decide +kernel
theorem dL_law_1003 : decode cL_law 1003 = .ok (.iload_n 3, 1) := by decide +kernel
theorem dL_law_1004 : decode cL_law 1004 = .ok (.iconst 1, 1) := by decide +kernel
theorem dL_law_1005 : decode cL_law 1005 = .ok (.iadd, 1) := by decide +kernel
theorem dL_law_1006 : decode cL_law 1006 = .ok (.iaload, 1) := by decide +kernel
theorem dL_law_1007 : decode cL_law 1007 = .ok (.aload_n 0, 1) := by decide +kernel
theorem dL_law_1008 : decode cL_law 1008 = .ok (.iload_n 3, 1) := by decide +kernel
theorem dL_law_1009 : decode cL_law 1009 = .ok (.iconst 2, 1) := by decide +kernel
theorem dL_law_1010 : decode cL_law 1010 = .ok (.iadd, 1) := by decide +kernel
theorem dL_law_1011 : decode cL_law 1011 = .ok (.iaload, 1) := by decide +kernel
theorem dL_law_1012 : decode cL_law 1012 = .ok (.invokevirtual 104, 3) := by decide +kernel
theorem dL_law_1015 : decode cL_law 1015 = .ok (.aload_n 2, 1) := by decide +kernel
theorem dL_law_1016 : decode cL_law 1016 = .ok (.aload_n 0, 1) := by decide +kernel
theorem dL_law_1017 : decode cL_law 1017 = .ok (.iload_n 3, 1) := by decide +kernel
theorem dL_law_1018 : decode cL_law 1018 = .ok (.iconst 1, 1) := by decide +kernel
theorem dL_law_1019 : decode cL_law 1019 = .ok (.iadd, 1) := by decide +kernel
theorem dL_law_1020 : decode cL_law 1020 = .ok (.iaload, 1) := by decide +kernel
theorem dL_law_1021 : decode cL_law 1021 = .ok (.aload_n 0, 1) := by decide +kernel
theorem dL_law_1022 : decode cL_law 1022 = .ok (.iload_n 3, 1) := by decide +kernel
theorem dL_law_1023 : decode cL_law 1023 = .ok (.iconst 2, 1) := by decide +kernel
theorem dL_law_1024 : decode cL_law 1024 = .ok (.iadd, 1) := by decide +kernel
theorem dL_law_1025 : decode cL_law 1025 = .ok (.iaload, 1) := by decide +kernel
theorem dL_law_1026 : decode cL_law 1026 = .ok (.invokevirtual 107, 3) := by decide +kernel
theorem dL_law_1029 : decode cL_law 1029 = .ok (.if_icmp .eq 241, 3) := by decide +kernel
theorem dL_law_1032 : decode cL_law 1032 = .ok (.iconst 0, 1) := by decide +kernel
theorem dL_law_1033 : decode cL_law 1033 = .ok (.ireturn, 1) := by decide +kernel
theorem dL_law_1034 : decode cL_law 1034 = .ok (.aload_n 1, 1) := by decide +kernel
theorem dL_law_1035 : decode cL_law 1035 = .ok (.aload_n 0, 1) := by decide +kernel
theorem dL_law_1036 : decode cL_law 1036 = .ok (.iload_n 3, 1) := by decide +kernel
theorem dL_law_1037 : decode cL_law 1037 = .ok (.iconst 1, 1) := by decide +kernel
theorem dL_law_1038 : decode cL_law 1038 = .ok (.iadd, 1) := by decide +kernel
theorem dL_law_1039 : decode cL_law 1039 = .ok (.iaload, 1) := by decide +kernel
theorem dL_law_1040 : decode cL_law 1040 = .ok (.aload_n 0, 1) := by decide +kernel
theorem dL_law_1041 : decode cL_law 1041 = .ok (.iload_n 3, 1) := by decide +kernel
theorem dL_law_1042 : decode cL_law 1042 = .ok (.iconst 2, 1) := by decide +kernel
theorem dL_law_1043 : decode cL_law 1043 = .ok (.iadd, 1) := by decide +kernel
theorem dL_law_1044 : decode cL_law 1044 = .ok (.iaload, 1) := by decide +kernel
theorem dL_law_1045 : decode cL_law 1045 = .ok (.invokevirtual 108, 3) := by decide +kernel
theorem dL_law_1048 : decode cL_law 1048 = .ok (.aload_n 2, 1) := by decide +kernel
theorem dL_law_1049 : decode cL_law 1049 = .ok (.aload_n 0, 1) := by decide +kernel
theorem dL_law_1050 : decode cL_law 1050 = .ok (.iload_n 3, 1) := by decide +kernel
theorem dL_law_1051 : decode cL_law 1051 = .ok (.iconst 1, 1) := by decide +kernel
theorem dL_law_1052 : decode cL_law 1052 = .ok (.iadd, 1) := by decide +kernel
theorem dL_law_1053 : decode cL_law 1053 = .ok (.iaload, 1) := by decide +kernel
theorem dL_law_1054 : decode cL_law 1054 = .ok (.aload_n 0, 1) := by decide +kernel
theorem dL_law_1055 : decode cL_law 1055 = .ok (.iload_n 3, 1) := by decide +kernel
theorem dL_law_1056 : decode cL_law 1056 = .ok (.iconst 2, 1) := by decide +kernel
theorem dL_law_1057 : decode cL_law 1057 = .ok (.iadd, 1) := by decide +kernel
theorem dL_law_1058 : decode cL_law 1058 = .ok (.iaload, 1) := by decide +kernel
theorem dL_law_1059 : decode cL_law 1059 = .ok (.invokevirtual 111, 3) := by decide +kernel
theorem dL_law_1062 : decode cL_law 1062 = .ok (.if_icmp .eq 208, 3) := by decide +kernel
theorem dL_law_1065 : decode cL_law 1065 = .ok (.iconst 0, 1) := by decide +kernel
theorem dL_law_1066 : decode cL_law 1066 = .ok (.ireturn, 1) := by decide +kernel
theorem dL_law_1067 : decode cL_law 1067 = .ok (.aload_n 1, 1) := by decide +kernel
theorem dL_law_1068 : decode cL_law 1068 = .ok (.invokevirtual 112, 3) := by decide +kernel
theorem dL_law_1071 : decode cL_law 1071 = .ok (.aload_n 2, 1) := by decide +kernel
theorem dL_law_1072 : decode cL_law 1072 = .ok (.invokevirtual 116, 3) := by decide +kernel
theorem dL_law_1075 : decode cL_law 1075 = .ok (.if_icmp .eq 195, 3) := by decide +kernel
theorem dL_law_1078 : decode cL_law 1078 = .ok (.iconst 0, 1) := by decide +kernel
theorem dL_law_1079 : decode cL_law 1079 = .ok (.ireturn, 1) := by decide +kernel
theorem dL_law_1080 : decode cL_law 1080 = .ok (.aload_n 1, 1) := by decide +kernel
theorem dL_law_1081 : decode cL_law 1081 = .ok (.aload_n 0, 1) := by decide +kernel
theorem dL_law_1082 : decode cL_law 1082 = .ok (.iload_n 3, 1) := by decide +kernel
theorem dL_law_1083 : decode cL_law 1083 = .ok (.iconst 1, 1) := by decide +kernel
theorem dL_law_1084 : decode cL_law 1084 = .ok (.iadd, 1) := by decide +kernel
theorem dL_law_1085 : decode cL_law 1085 = .ok (.iaload, 1) := by decide +kernel
theorem dL_law_1086 : decode cL_law 1086 = .ok (.aload_n 0, 1) := by decide +kernel
theorem dL_law_1087 : decode cL_law 1087 = .ok (.iload_n 3, 1) := by decide +kernel
theorem dL_law_1088 : decode cL_law 1088 = .ok (.iconst 2, 1) := by decide +kernel
theorem dL_law_1089 : decode cL_law 1089 = .ok (.iadd, 1) := by decide +kernel
theorem dL_law_1090 : decode cL_law 1090 = .ok (.iaload, 1) := by decide +kernel
theorem dL_law_1091 : decode cL_law 1091 = .ok (.invokevirtual 117, 3) := by decide +kernel
theorem dL_law_1094 : decode cL_law 1094 = .ok (.aload_n 2, 1) := by decide +kernel
theorem dL_law_1095 : decode cL_law 1095 = .ok (.aload_n 0, 1) := by decide +kernel
theorem dL_law_1096 : decode cL_law 1096 = .ok (.iload_n 3, 1) := by decide +kernel
theorem dL_law_1097 : decode cL_law 1097 = .ok (.iconst 1, 1) := by decide +kernel
theorem dL_law_1098 : decode cL_law 1098 = .ok (.iadd, 1) := by decide +kernel
theorem dL_law_1099 : decode cL_law 1099 = .ok (.iaload, 1) := by decide +kernel
theorem dL_law_1100 : decode cL_law 1100 = .ok (.aload_n 0, 1) := by decide +kernel
theorem dL_law_1101 : decode cL_law 1101 = .ok (.iload_n 3, 1) := by decide +kernel
theorem dL_law_1102 : decode cL_law 1102 = .ok (.iconst 2, 1) := by decide +kernel
theorem dL_law_1103 : decode cL_law 1103 = .ok (.iadd, 1) := by decide +kernel
theorem dL_law_1104 : decode cL_law 1104 = .ok (.iaload, 1) := by decide +kernel
theorem dL_law_1105 : decode cL_law 1105 = .ok (.invokevirtual 120, 3) := by decide +kernel
theorem dL_law_1108 : decode cL_law 1108 = .ok (.if_icmp .eq 162, 3) := by decide +kernel
theorem dL_law_1111 : decode cL_law 1111 = .ok (.iconst 0, 1) := by decide +kernel
theorem dL_law_1112 : decode cL_law 1112 = .ok (.ireturn, 1) := by decide +kernel
theorem dL_law_1113 : decode cL_law 1113 = .ok (.aload_n 1, 1) := by decide +kernel
theorem dL_law_1114 : decode cL_law 1114 = .ok (.aload_n 0, 1) := by decide +kernel
theorem dL_law_1115 : decode cL_law 1115 = .ok (.iload_n 3, 1) := by decide +kernel
theorem dL_law_1116 : decode cL_law 1116 = .ok (.iconst 1, 1) := by decide +kernel
theorem dL_law_1117 : decode cL_law 1117 = .ok (.iadd, 1) := by decide +kernel
theorem dL_law_1118 : decode cL_law 1118 = .ok (.iaload, 1) := by decide +kernel
theorem dL_law_1119 : decode cL_law 1119 = .ok (.invokevirtual 121, 3) := by decide +kernel
theorem dL_law_1122 : decode cL_law 1122 = .ok (.aload_n 2, 1) := by decide +kernel
theorem dL_law_1123 : decode cL_law 1123 = .ok (.aload_n 0, 1) := by decide +kernel
theorem dL_law_1124 : decode cL_law 1124 = .ok (.iload_n 3, 1) := by decide +kernel
theorem dL_law_1125 : decode cL_law 1125 = .ok (.iconst 1, 1) := by decide +kernel
theorem dL_law_1126 : decode cL_law 1126 = .ok (.iadd, 1) := by decide +kernel
theorem dL_law_1127 : decode cL_law 1127 = .ok (.iaload, 1) := by decide +kernel
theorem dL_law_1128 : decode cL_law 1128 = .ok (.invokevirtual 124, 3) := by decide +kernel
theorem dL_law_1131 : decode cL_law 1131 = .ok (.if_icmp .eq 139, 3) := by decide +kernel
theorem dL_law_1134 : decode cL_law 1134 = .ok (.iconst 0, 1) := by decide +kernel
theorem dL_law_1135 : decode cL_law 1135 = .ok (.ireturn, 1) := by decide +kernel
theorem dL_law_1136 : decode cL_law 1136 = .ok (.aload_n 1, 1) := by decide +kernel
theorem dL_law_1137 : decode cL_law 1137 = .ok (.aload_n 0, 1) := by decide +kernel
theorem dL_law_1138 : decode cL_law 1138 = .ok (.iload_n 3, 1) := by decide +kernel
theorem dL_law_1139 : decode cL_law 1139 = .ok (.iconst 1, 1) := by decide +kernel
theorem dL_law_1140 : decode cL_law 1140 = .ok (.iadd, 1) := by decide +kernel
theorem dL_law_1141 : decode cL_law 1141 = .ok (.iaload, 1) := by decide +kernel
theorem dL_law_1142 : decode cL_law 1142 = .ok (.aload_n 0, 1) := by decide +kernel
theorem dL_law_1143 : decode cL_law 1143 = .ok (.iload_n 3, 1) := by decide +kernel
theorem dL_law_1144 : decode cL_law 1144 = .ok (.iconst 2, 1) := by decide +kernel
theorem dL_law_1145 : decode cL_law 1145 = .ok (.iadd, 1) := by decide +kernel
theorem dL_law_1146 : decode cL_law 1146 = .ok (.iaload, 1) := by decide +kernel
theorem dL_law_1147 : decode cL_law 1147 = .ok (.aload_n 0, 1) := by decide +kernel
theorem dL_law_1148 : decode cL_law 1148 = .ok (.iload_n 3, 1) := by decide +kernel
theorem dL_law_1149 : decode cL_law 1149 = .ok (.iconst 3, 1) := by decide +kernel
theorem dL_law_1150 : decode cL_law 1150 = .ok (.iadd, 1) := by decide +kernel
theorem dL_law_1151 : decode cL_law 1151 = .ok (.iaload, 1) := by decide +kernel
theorem dL_law_1152 : decode cL_law 1152 = .ok (.aload_n 0, 1) := by decide +kernel
theorem dL_law_1153 : decode cL_law 1153 = .ok (.iload_n 3, 1) := by decide +kernel
theorem dL_law_1154 : decode cL_law 1154 = .ok (.iconst 4, 1) := by decide +kernel
theorem dL_law_1155 : decode cL_law 1155 = .ok (.iadd, 1) := by decide +kernel
theorem dL_law_1156 : decode cL_law 1156 = .ok (.iaload, 1) := by decide +kernel
theorem dL_law_1157 : decode cL_law 1157 = .ok (.invokevirtual 125, 3) := by decide +kernel
theorem dL_law_1160 : decode cL_law 1160 = .ok (.aload_n 2, 1) := by decide +kernel
theorem dL_law_1161 : decode cL_law 1161 = .ok (.aload_n 0, 1) := by decide +kernel
theorem dL_law_1162 : decode cL_law 1162 = .ok (.iload_n 3, 1) := by decide +kernel
theorem dL_law_1163 : decode cL_law 1163 = .ok (.iconst 1, 1) := by decide +kernel
theorem dL_law_1164 : decode cL_law 1164 = .ok (.iadd, 1) := by decide +kernel
theorem dL_law_1165 : decode cL_law 1165 = .ok (.iaload, 1) := by decide +kernel
theorem dL_law_1166 : decode cL_law 1166 = .ok (.aload_n 0, 1) := by decide +kernel
theorem dL_law_1167 : decode cL_law 1167 = .ok (.iload_n 3, 1) := by decide +kernel
theorem dL_law_1168 : decode cL_law 1168 = .ok (.iconst 2, 1) := by decide +kernel
theorem dL_law_1169 : decode cL_law 1169 = .ok (.iadd, 1) := by decide +kernel
theorem dL_law_1170 : decode cL_law 1170 = .ok (.iaload, 1) := by decide +kernel
theorem dL_law_1171 : decode cL_law 1171 = .ok (.aload_n 0, 1) := by decide +kernel
theorem dL_law_1172 : decode cL_law 1172 = .ok (.iload_n 3, 1) := by decide +kernel
theorem dL_law_1173 : decode cL_law 1173 = .ok (.iconst 3, 1) := by decide +kernel
theorem dL_law_1174 : decode cL_law 1174 = .ok (.iadd, 1) := by decide +kernel
theorem dL_law_1175 : decode cL_law 1175 = .ok (.iaload, 1) := by decide +kernel
theorem dL_law_1176 : decode cL_law 1176 = .ok (.aload_n 0, 1) := by decide +kernel
theorem dL_law_1177 : decode cL_law 1177 = .ok (.iload_n 3, 1) := by decide +kernel
theorem dL_law_1178 : decode cL_law 1178 = .ok (.iconst 4, 1) := by decide +kernel
theorem dL_law_1179 : decode cL_law 1179 = .ok (.iadd, 1) := by decide +kernel
theorem dL_law_1180 : decode cL_law 1180 = .ok (.iaload, 1) := by decide +kernel
theorem dL_law_1181 : decode cL_law 1181 = .ok (.invokevirtual 128, 3) := by decide +kernel
theorem dL_law_1184 : decode cL_law 1184 = .ok (.if_icmp .eq 86, 3) := by decide +kernel
theorem dL_law_1187 : decode cL_law 1187 = .ok (.iconst 0, 1) := by decide +kernel
theorem dL_law_1188 : decode cL_law 1188 = .ok (.ireturn, 1) := by decide +kernel
theorem dL_law_1189 : decode cL_law 1189 = .ok (.aload_n 1, 1) := by decide +kernel
theorem dL_law_1190 : decode cL_law 1190 = .ok (.aload_n 0, 1) := by decide +kernel
theorem dL_law_1191 : decode cL_law 1191 = .ok (.iload_n 3, 1) := by decide +kernel
theorem dL_law_1192 : decode cL_law 1192 = .ok (.iconst 1, 1) := by decide +kernel
theorem dL_law_1193 : decode cL_law 1193 = .ok (.iadd, 1) := by decide +kernel
theorem dL_law_1194 : decode cL_law 1194 = .ok (.iaload, 1) := by decide +kernel
theorem dL_law_1195 : decode cL_law 1195 = .ok (.aload_n 0, 1) := by decide +kernel
theorem dL_law_1196 : decode cL_law 1196 = .ok (.iload_n 3, 1) := by decide +kernel
theorem dL_law_1197 : decode cL_law 1197 = .ok (.iconst 2, 1) := by decide +kernel
theorem dL_law_1198 : decode cL_law 1198 = .ok (.iadd, 1) := by decide +kernel
theorem dL_law_1199 : decode cL_law 1199 = .ok (.iaload, 1) := by decide +kernel
theorem dL_law_1200 : decode cL_law 1200 = .ok (.aload_n 0, 1) := by decide +kernel
theorem dL_law_1201 : decode cL_law 1201 = .ok (.iload_n 3, 1) := by decide +kernel
theorem dL_law_1202 : decode cL_law 1202 = .ok (.iconst 3, 1) := by decide +kernel
theorem dL_law_1203 : decode cL_law 1203 = .ok (.iadd, 1) := by decide +kernel
theorem dL_law_1204 : decode cL_law 1204 = .ok (.iaload, 1) := by decide +kernel
theorem dL_law_1205 : decode cL_law 1205 = .ok (.invokevirtual 129, 3) := by decide +kernel
theorem dL_law_1208 : decode cL_law 1208 = .ok (.aload_n 2, 1) := by decide +kernel
theorem dL_law_1209 : decode cL_law 1209 = .ok (.aload_n 0, 1) := by decide +kernel
theorem dL_law_1210 : decode cL_law 1210 = .ok (.iload_n 3, 1) := by decide +kernel
theorem dL_law_1211 : decode cL_law 1211 = .ok (.iconst 1, 1) := by decide +kernel
theorem dL_law_1212 : decode cL_law 1212 = .ok (.iadd, 1) := by decide +kernel
theorem dL_law_1213 : decode cL_law 1213 = .ok (.iaload, 1) := by decide +kernel
theorem dL_law_1214 : decode cL_law 1214 = .ok (.aload_n 0, 1) := by decide +kernel
theorem dL_law_1215 : decode cL_law 1215 = .ok (.iload_n 3, 1) := by decide +kernel
theorem dL_law_1216 : decode cL_law 1216 = .ok (.iconst 2, 1) := by decide +kernel
theorem dL_law_1217 : decode cL_law 1217 = .ok (.iadd, 1) := by decide +kernel
theorem dL_law_1218 : decode cL_law 1218 = .ok (.iaload, 1) := by decide +kernel
theorem dL_law_1219 : decode cL_law 1219 = .ok (.aload_n 0, 1) := by decide +kernel
theorem dL_law_1220 : decode cL_law 1220 = .ok (.iload_n 3, 1) := by decide +kernel
theorem dL_law_1221 : decode cL_law 1221 = .ok (.iconst 3, 1) := by decide +kernel
theorem dL_law_1222 : decode cL_law 1222 = .ok (.iadd, 1) := by decide +kernel
theorem dL_law_1223 : decode cL_law 1223 = .ok (.iaload, 1) := by decide +kernel
theorem dL_law_1224 : decode cL_law 1224 = .ok (.invokevirtual 133, 3) := by decide +kernel
theorem dL_law_1227 : decode cL_law 1227 = .ok (.lcmp, 1) := by decide +kernel
theorem dL_law_1228 : decode cL_law 1228 = .ok (.ifCond .eq 42, 3) := by decide +kernel
theorem dL_law_1231 : decode cL_law 1231 = .ok (.iconst 0, 1) := by decide +kernel
theorem dL_law_1232 : decode cL_law 1232 = .ok (.ireturn, 1) := by decide +kernel
theorem dL_law_1233 : decode cL_law 1233 = .ok (.aload_n 1, 1) := by decide +kernel
theorem dL_law_1234 : decode cL_law 1234 = .ok (.aload_n 0, 1) := by decide +kernel
theorem dL_law_1235 : decode cL_law 1235 = .ok (.iload_n 3, 1) := by decide +kernel
theorem dL_law_1236 : decode cL_law 1236 = .ok (.iconst 1, 1) := by decide +kernel
theorem dL_law_1237 : decode cL_law 1237 = .ok (.iadd, 1) := by decide +kernel
theorem dL_law_1238 : decode cL_law 1238 = .ok (.iaload, 1) := by decide +kernel
theorem dL_law_1239 : decode cL_law 1239 = .ok (.invokevirtual 134, 3) := by decide +kernel
theorem dL_law_1242 : decode cL_law 1242 = .ok (.aload_n 2, 1) := by decide +kernel
theorem dL_law_1243 : decode cL_law 1243 = .ok (.aload_n 0, 1) := by decide +kernel
theorem dL_law_1244 : decode cL_law 1244 = .ok (.iload_n 3, 1) := by decide +kernel
theorem dL_law_1245 : decode cL_law 1245 = .ok (.iconst 1, 1) := by decide +kernel
theorem dL_law_1246 : decode cL_law 1246 = .ok (.iadd, 1) := by decide +kernel
theorem dL_law_1247 : decode cL_law 1247 = .ok (.iaload, 1) := by decide +kernel
theorem dL_law_1248 : decode cL_law 1248 = .ok (.invokevirtual 137, 3) := by decide +kernel
theorem dL_law_1251 : decode cL_law 1251 = .ok (.if_icmp .eq 19, 3) := by decide +kernel
theorem dL_law_1254 : decode cL_law 1254 = .ok (.iconst 0, 1) := by decide +kernel
theorem dL_law_1255 : decode cL_law 1255 = .ok (.ireturn, 1) := by decide +kernel
theorem dL_law_1256 : decode cL_law 1256 = .ok (.aload_n 1, 1) := by decide +kernel
theorem dL_law_1257 : decode cL_law 1257 = .ok (.invokevirtual 138, 3) := by decide +kernel
theorem dL_law_1260 : decode cL_law 1260 = .ok (.aload_n 2, 1) := by decide +kernel
theorem dL_law_1261 : decode cL_law 1261 = .ok (.invokevirtual 142, 3) := by decide +kernel
theorem dL_law_1264 : decode cL_law 1264 = .ok (.lcmp, 1) := by decide +kernel
theorem dL_law_1265 : decode cL_law 1265 = .ok (.ifCond .eq 5, 3) := by decide +kernel
theorem dL_law_1268 : decode cL_law 1268 = .ok (.iconst 0, 1) := by decide +kernel
theorem dL_law_1269 : decode cL_law 1269 = .ok (.ireturn, 1) := by decide +kernel
theorem dL_law_1270 : decode cL_law 1270 = .ok (.iinc 3 6, 3) := by decide +kernel
theorem dL_law_1273 : decode cL_law 1273 = .ok (.goto (-1255), 3) := by decide +kernel
theorem dL_law_1276 : decode cL_law 1276 = .ok (.iconst 1, 1) := by decide +kernel
theorem dL_law_1277 : decode cL_law 1277 = .ok (.ireturn, 1) := by decide +kernel
end
section
theorem dX0_init_0 : decode cX0_init 0 = .ok (.aload_n 0, 1) := by decide +kernel
theorem dX0_init_1 : decode cX0_init 1 = .ok (.invokespecial 3, 3) := by decide +kernel
theorem dX0_init_4 : decode cX0_init 4 = .ok (.aload_n 0, 1) := by decide +kernel
theorem dX0_init_5 : decode cX0_init 5 = .ok (.iconst 4, 1) := by decide +kernel
theorem dX0_init_6 : decode cX0_init 6 = .ok (.newarray .int, 2) := by decide +kernel
theorem dX0_init_8 : decode cX0_init 8 = .ok (.putfield 9, 3) := by decide +kernel
theorem dX0_init_11 : decode cX0_init 11 = .ok (.return_, 1) := by decide +kernel
theorem dX0_slot_0 : decode cX0_slot 0 = .ok (.aload_n 0, 1) := by decide +kernel
theorem dX0_slot_1 : decode cX0_slot 1 = .ok (.getfield 15, 3) := by decide +kernel
theorem dX0_slot_4 : decode cX0_slot 4 = .ok (.bipush 20, 2) := by decide +kernel
theorem dX0_slot_6 : decode cX0_slot 6 = .ok (.imul, 1) := by decide +kernel
theorem dX0_slot_7 : decode cX0_slot 7 = .ok (.aload_n 0, 1) := by decide +kernel
theorem dX0_slot_8 : decode cX0_slot 8 = .ok (.getfield 19, 3) := by decide +kernel
theorem dX0_slot_11 : decode cX0_slot 11 = .ok (.iadd, 1) := by decide +kernel
theorem dX0_slot_12 : decode cX0_slot 12 = .ok (.ireturn, 1) := by decide +kernel
theorem dX0_groundSize_0 : decode cX0_groundSize 0 = .ok (.iconst 0, 1) := by decide +kernel
theorem dX0_groundSize_1 : decode cX0_groundSize 1 = .ok (.istore_n 1, 1) := by decide +kernel
theorem dX0_groundSize_2 : decode cX0_groundSize 2 = .ok (.iconst 0, 1) := by decide +kernel
theorem dX0_groundSize_3 : decode cX0_groundSize 3 = .ok (.istore_n 2, 1) := by decide +kernel
theorem dX0_groundSize_4 : decode cX0_groundSize 4 = .ok (.iload_n 2, 1) := by decide +kernel
theorem dX0_groundSize_5 : decode cX0_groundSize 5 = .ok (.iconst 4, 1) := by decide +kernel
theorem dX0_groundSize_6 : decode cX0_groundSize 6 = .ok (.if_icmp .ge 18, 3) := by decide +kernel
theorem dX0_groundSize_9 : decode cX0_groundSize 9 = .ok (.iload_n 1, 1) := by decide +kernel
theorem dX0_groundSize_10 : decode cX0_groundSize 10 = .ok (.aload_n 0, 1) := by decide +kernel
theorem dX0_groundSize_11 : decode cX0_groundSize 11 = .ok (.getfield 9, 3) := by decide +kernel
theorem dX0_groundSize_14 : decode cX0_groundSize 14 = .ok (.iload_n 2, 1) := by decide +kernel
theorem dX0_groundSize_15 : decode cX0_groundSize 15 = .ok (.iaload, 1) := by decide +kernel
theorem dX0_groundSize_16 : decode cX0_groundSize 16 = .ok (.iadd, 1) := by decide +kernel
theorem dX0_groundSize_17 : decode cX0_groundSize 17 = .ok (.istore_n 1, 1) := by decide +kernel
theorem dX0_groundSize_18 : decode cX0_groundSize 18 = .ok (.iinc 2 1, 3) := by decide +kernel
theorem dX0_groundSize_21 : decode cX0_groundSize 21 = .ok (.goto (-17), 3) := by decide +kernel
theorem dX0_groundSize_24 : decode cX0_groundSize 24 = .ok (.iload_n 1, 1) := by decide +kernel
theorem dX0_groundSize_25 : decode cX0_groundSize 25 = .ok (.ireturn, 1) := by decide +kernel
theorem dX0_standsOn_0 : decode cX0_standsOn 0 = .ok (.aload_n 1, 1) := by decide +kernel
theorem dX0_standsOn_1 : decode cX0_standsOn 1 = .ok (.getfield 19, 3) := by decide +kernel
theorem dX0_standsOn_4 : decode cX0_standsOn 4 = .ok (.aload_n 0, 1) := by decide +kernel
theorem dX0_standsOn_5 : decode cX0_standsOn 5 = .ok (.getfield 9, 3) := by decide +kernel
theorem dX0_standsOn_8 : decode cX0_standsOn 8 = .ok (.aload_n 1, 1) := by decide +kernel
theorem dX0_standsOn_9 : decode cX0_standsOn 9 = .ok (.getfield 15, 3) := by decide +kernel
theorem dX0_standsOn_12 : decode cX0_standsOn 12 = .ok (.iaload, 1) := by decide +kernel
theorem dX0_standsOn_13 : decode cX0_standsOn 13 = .ok (.if_icmp .ge 7, 3) := by decide +kernel
theorem dX0_standsOn_16 : decode cX0_standsOn 16 = .ok (.iconst 1, 1) := by decide +kernel
theorem dX0_standsOn_17 : decode cX0_standsOn 17 = .ok (.goto 4, 3) := by decide +kernel
theorem dX0_standsOn_20 : decode cX0_standsOn 20 = .ok (.iconst 0, 1) := by decide +kernel
theorem dX0_standsOn_21 : decode cX0_standsOn 21 = .ok (.ireturn, 1) := by decide +kernel
theorem dX0_isAheadOf_0 : decode cX0_isAheadOf 0 = .ok (.aload_n 0, 1) := by decide +kernel
theorem dX0_isAheadOf_1 : decode cX0_isAheadOf 1 = .ok (.getfield 22, 3) := by decide +kernel
theorem dX0_isAheadOf_4 : decode cX0_isAheadOf 4 = .ok (.aload_n 1, 1) := by decide +kernel
theorem dX0_isAheadOf_5 : decode cX0_isAheadOf 5 = .ok (.getfield 22, 3) := by decide +kernel
theorem dX0_isAheadOf_8 : decode cX0_isAheadOf 8 = .ok (.if_icmp .lt 25, 3) := by decide +kernel
theorem dX0_isAheadOf_11 : decode cX0_isAheadOf 11 = .ok (.aload_n 0, 1) := by decide +kernel
theorem dX0_isAheadOf_12 : decode cX0_isAheadOf 12 = .ok (.getfield 22, 3) := by decide +kernel
theorem dX0_isAheadOf_15 : decode cX0_isAheadOf 15 = .ok (.aload_n 1, 1) := by decide +kernel
theorem dX0_isAheadOf_16 : decode cX0_isAheadOf 16 = .ok (.getfield 22, 3) := by decide +kernel
theorem dX0_isAheadOf_19 : decode cX0_isAheadOf 19 = .ok (.if_icmp .ne 18, 3) := by decide +kernel
theorem dX0_isAheadOf_22 : decode cX0_isAheadOf 22 = .ok (.aload_n 0, 1) := by decide +kernel
theorem dX0_isAheadOf_23 : decode cX0_isAheadOf 23 = .ok (.getfield 15, 3) := by decide +kernel
theorem dX0_isAheadOf_26 : decode cX0_isAheadOf 26 = .ok (.aload_n 1, 1) := by decide +kernel
theorem dX0_isAheadOf_27 : decode cX0_isAheadOf 27 = .ok (.getfield 15, 3) := by decide +kernel
theorem dX0_isAheadOf_30 : decode cX0_isAheadOf 30 = .ok (.if_icmp .ge 7, 3) := by decide +kernel
theorem dX0_isAheadOf_33 : decode cX0_isAheadOf 33 = .ok (.iconst 1, 1) := by decide +kernel
theorem dX0_isAheadOf_34 : decode cX0_isAheadOf 34 = .ok (.goto 4, 3) := by decide +kernel
theorem dX0_isAheadOf_37 : decode cX0_isAheadOf 37 = .ok (.iconst 0, 1) := by decide +kernel
theorem dX0_isAheadOf_38 : decode cX0_isAheadOf 38 = .ok (.ireturn, 1) := by decide +kernel
end
section
theorem dX1_init_0 : decode cX1_init 0 = .ok (.aload_n 0, 1) := by decide +kernel
theorem dX1_init_1 : decode cX1_init 1 = .ok (.invokespecial 3, 3) := by decide +kernel
theorem dX1_init_4 : decode cX1_init 4 = .ok (.aload_n 0, 1) := by decide +kernel
theorem dX1_init_5 : decode cX1_init 5 = .ok (.bipush 80, 2) := by decide +kernel
theorem dX1_init_7 : decode cX1_init 7 = .ok (.anewarray 9, 3) := by decide +kernel
theorem dX1_init_10 : decode cX1_init 10 = .ok (.putfield 11, 3) := by decide +kernel
theorem dX1_init_13 : decode cX1_init 13 = .ok (.aload_n 0, 1) := by decide +kernel
theorem dX1_init_14 : decode cX1_init 14 = .ok (.bipush 80, 2) := by decide +kernel
theorem dX1_init_16 : decode cX1_init 16 = .ok (.newarray .int, 2) := by decide +kernel
theorem dX1_init_18 : decode cX1_init 18 = .ok (.putfield 17, 3) := by decide +kernel
theorem dX1_init_21 : decode cX1_init 21 = .ok (.aload_n 0, 1) := by decide +kernel
theorem dX1_init_22 : decode cX1_init 22 = .ok (.iconst 4, 1) := by decide +kernel
theorem dX1_init_23 : decode cX1_init 23 = .ok (.newarray .int, 2) := by decide +kernel
theorem dX1_init_25 : decode cX1_init 25 = .ok (.putfield 21, 3) := by decide +kernel
theorem dX1_init_28 : decode cX1_init 28 = .ok (.aload_n 0, 1) := by decide +kernel
theorem dX1_init_29 : decode cX1_init 29 = .ok (.sipush 480, 3) := by decide +kernel
theorem dX1_init_32 : decode cX1_init 32 = .ok (.newarray .int, 2) := by decide +kernel
theorem dX1_init_34 : decode cX1_init 34 = .ok (.putfield 24, 3) := by decide +kernel
theorem dX1_init_37 : decode cX1_init 37 = .ok (.aload_n 0, 1) := by decide +kernel
theorem dX1_init_38 : decode cX1_init 38 = .ok (.iconst 4, 1) := by decide +kernel
theorem dX1_init_39 : decode cX1_init 39 = .ok (.newarray .int, 2) := by decide +kernel
theorem dX1_init_41 : decode cX1_init 41 = .ok (.putfield 27, 3) := by decide +kernel
theorem dX1_init_44 : decode cX1_init 44 = .ok (.aload_n 0, 1) := by decide +kernel
theorem dX1_init_45 : decode cX1_init 45 = .ok (.iconst 4, 1) := by decide +kernel
theorem dX1_init_46 : decode cX1_init 46 = .ok (.newarray .int, 2) := by decide +kernel
theorem dX1_init_48 : decode cX1_init 48 = .ok (.putfield 30, 3) := by decide +kernel
theorem dX1_init_51 : decode cX1_init 51 = .ok (.iconst 0, 1) := by decide +kernel
theorem dX1_init_52 : decode cX1_init 52 = .ok (.istore_n 1, 1) := by decide +kernel
theorem dX1_init_53 : decode cX1_init 53 = .ok (.iload_n 1, 1) := by decide +kernel
theorem dX1_init_54 : decode cX1_init 54 = .ok (.bipush 80, 2) := by decide +kernel
theorem dX1_init_56 : decode cX1_init 56 = .ok (.if_icmp .ge 22, 3) := by decide +kernel
theorem dX1_init_59 : decode cX1_init 59 = .ok (.aload_n 0, 1) := by decide +kernel
theorem dX1_init_60 : decode cX1_init 60 = .ok (.getfield 11, 3) := by decide +kernel
theorem dX1_init_63 : decode cX1_init 63 = .ok (.iload_n 1, 1) := by decide +kernel
theorem dX1_init_64 : decode cX1_init 64 = .ok (.new 9, 3) := by decide +kernel
theorem dX1_init_67 : decode cX1_init 67 = .ok (.dup, 1) := by decide +kernel
theorem dX1_init_68 : decode cX1_init 68 = .ok (.invokespecial 33, 3) := by decide +kernel
theorem dX1_init_71 : decode cX1_init 71 = .ok (.aastore, 1) := by decide +kernel
theorem dX1_init_72 : decode cX1_init 72 = .ok (.iinc 1 1, 3) := by decide +kernel
theorem dX1_init_75 : decode cX1_init 75 = .ok (.goto (-22), 3) := by decide +kernel
theorem dX1_init_78 : decode cX1_init 78 = .ok (.return_, 1) := by decide +kernel
theorem dX1_empty_0 : decode cX1_empty 0 = .ok (.aload_n 0, 1) := by decide +kernel
theorem dX1_empty_1 : decode cX1_empty 1 = .ok (.iconst 0, 1) := by decide +kernel
theorem dX1_empty_2 : decode cX1_empty 2 = .ok (.putfield 34, 3) := by decide +kernel
theorem dX1_empty_5 : decode cX1_empty 5 = .ok (.aload_n 0, 1) := by decide +kernel
theorem dX1_empty_6 : decode cX1_empty 6 = .ok (.iconst 0, 1) := by decide +kernel
theorem dX1_empty_7 : decode cX1_empty 7 = .ok (.putfield 38, 3) := by decide +kernel
theorem dX1_empty_10 : decode cX1_empty 10 = .ok (.iconst 0, 1) := by decide +kernel
theorem dX1_empty_11 : decode cX1_empty 11 = .ok (.istore_n 1, 1) := by decide +kernel
theorem dX1_empty_12 : decode cX1_empty 12 = .ok (.iload_n 1, 1) := by decide +kernel
theorem dX1_empty_13 : decode cX1_empty 13 = .ok (.iconst 4, 1) := by decide +kernel
theorem dX1_empty_14 : decode cX1_empty 14 = .ok (.if_icmp .ge 32, 3) := by decide +kernel
theorem dX1_empty_17 : decode cX1_empty 17 = .ok (.aload_n 0, 1) := by decide +kernel
theorem dX1_empty_18 : decode cX1_empty 18 = .ok (.getfield 21, 3) := by decide +kernel
theorem dX1_empty_21 : decode cX1_empty 21 = .ok (.iload_n 1, 1) := by decide +kernel
theorem dX1_empty_22 : decode cX1_empty 22 = .ok (.iconst 0, 1) := by decide +kernel
theorem dX1_empty_23 : decode cX1_empty 23 = .ok (.iastore, 1) := by decide +kernel
theorem dX1_empty_24 : decode cX1_empty 24 = .ok (.aload_n 0, 1) := by decide +kernel
theorem dX1_empty_25 : decode cX1_empty 25 = .ok (.getfield 27, 3) := by decide +kernel
theorem dX1_empty_28 : decode cX1_empty 28 = .ok (.iload_n 1, 1) := by decide +kernel
theorem dX1_empty_29 : decode cX1_empty 29 = .ok (.bipush (-9), 2) := by decide +kernel
theorem dX1_empty_31 : decode cX1_empty 31 = .ok (.iastore, 1) := by decide +kernel
theorem dX1_empty_32 : decode cX1_empty 32 = .ok (.aload_n 0, 1) := by decide +kernel
theorem dX1_empty_33 : decode cX1_empty 33 = .ok (.getfield 30, 3) := by decide +kernel
theorem dX1_empty_36 : decode cX1_empty 36 = .ok (.iload_n 1, 1) := by decide +kernel
theorem dX1_empty_37 : decode cX1_empty 37 = .ok (.bipush 20, 2) := by decide +kernel
theorem dX1_empty_39 : decode cX1_empty 39 = .ok (.iastore, 1) := by decide +kernel
theorem dX1_empty_40 : decode cX1_empty 40 = .ok (.iinc 1 1, 3) := by decide +kernel
theorem dX1_empty_43 : decode cX1_empty 43 = .ok (.goto (-31), 3) := by decide +kernel
theorem dX1_empty_46 : decode cX1_empty 46 = .ok (.iconst 0, 1) := by decide +kernel
theorem dX1_empty_47 : decode cX1_empty 47 = .ok (.istore_n 1, 1) := by decide +kernel
theorem dX1_empty_48 : decode cX1_empty 48 = .ok (.iload_n 1, 1) := by decide +kernel
theorem dX1_empty_49 : decode cX1_empty 49 = .ok (.bipush 16, 2) := by decide +kernel
theorem dX1_empty_51 : decode cX1_empty 51 = .ok (.if_icmp .ge 16, 3) := by decide +kernel
theorem dX1_empty_54 : decode cX1_empty 54 = .ok (.aload_n 0, 1) := by decide +kernel
theorem dX1_empty_55 : decode cX1_empty 55 = .ok (.getfield 24, 3) := by decide +kernel
theorem dX1_empty_58 : decode cX1_empty 58 = .ok (.iload_n 1, 1) := by decide +kernel
theorem dX1_empty_59 : decode cX1_empty 59 = .ok (.iconst 0, 1) := by decide +kernel
theorem dX1_empty_60 : decode cX1_empty 60 = .ok (.iastore, 1) := by decide +kernel
theorem dX1_empty_61 : decode cX1_empty 61 = .ok (.iinc 1 1, 3) := by decide +kernel
theorem dX1_empty_64 : decode cX1_empty 64 = .ok (.goto (-16), 3) := by decide +kernel
theorem dX1_empty_67 : decode cX1_empty 67 = .ok (.return_, 1) := by decide +kernel
theorem dX1_placeOf_0 : decode cX1_placeOf 0 = .ok (.iload_n 0, 1) := by decide +kernel
theorem dX1_placeOf_1 : decode cX1_placeOf 1 = .ok (.iconst 4, 1) := by decide +kernel
theorem dX1_placeOf_2 : decode cX1_placeOf 2 = .ok (.imul, 1) := by decide +kernel
theorem dX1_placeOf_3 : decode cX1_placeOf 3 = .ok (.iload_n 1, 1) := by decide +kernel
theorem dX1_placeOf_4 : decode cX1_placeOf 4 = .ok (.iadd, 1) := by decide +kernel
theorem dX1_placeOf_5 : decode cX1_placeOf 5 = .ok (.iconst 4, 1) := by decide +kernel
theorem dX1_placeOf_6 : decode cX1_placeOf 6 = .ok (.imul, 1) := by decide +kernel
theorem dX1_placeOf_7 : decode cX1_placeOf 7 = .ok (.iload_n 2, 1) := by decide +kernel
theorem dX1_placeOf_8 : decode cX1_placeOf 8 = .ok (.iadd, 1) := by decide +kernel
theorem dX1_placeOf_9 : decode cX1_placeOf 9 = .ok (.ireturn, 1) := by decide +kernel
theorem dX1_knownOf_0 : decode cX1_knownOf 0 = .ok (.aload_n 0, 1) := by decide +kernel
theorem dX1_knownOf_1 : decode cX1_knownOf 1 = .ok (.getfield 24, 3) := by decide +kernel
theorem dX1_knownOf_4 : decode cX1_knownOf 4 = .ok (.iload_n 1, 1) := by decide +kernel
theorem dX1_knownOf_5 : decode cX1_knownOf 5 = .ok (.iload_n 2, 1) := by decide +kernel
theorem dX1_knownOf_6 : decode cX1_knownOf 6 = .ok (.iload_n 3, 1) := by decide +kernel
theorem dX1_knownOf_7 : decode cX1_knownOf 7 = .ok (.invokestatic 41, 3) := by decide +kernel
theorem dX1_knownOf_10 : decode cX1_knownOf 10 = .ok (.iaload, 1) := by decide +kernel
theorem dX1_knownOf_11 : decode cX1_knownOf 11 = .ok (.ireturn, 1) := by decide +kernel
theorem dX1_knows_0 : decode cX1_knows 0 = .ok (.aload_n 3, 1) := by decide +kernel
theorem dX1_knows_1 : decode cX1_knows 1 = .ok (.getfield 45, 3) := by decide +kernel
theorem dX1_knows_4 : decode cX1_knows 4 = .ok (.aload_n 0, 1) := by decide +kernel
theorem dX1_knows_5 : decode cX1_knows 5 = .ok (.iload_n 1, 1) := by decide +kernel
theorem dX1_knows_6 : decode cX1_knows 6 = .ok (.iload_n 2, 1) := by decide +kernel
theorem dX1_knows_7 : decode cX1_knows 7 = .ok (.aload_n 3, 1) := by decide +kernel
theorem dX1_knows_8 : decode cX1_knows 8 = .ok (.getfield 48, 3) := by decide +kernel
theorem dX1_knows_11 : decode cX1_knows 11 = .ok (.invokevirtual 51, 3) := by decide +kernel
theorem dX1_knows_14 : decode cX1_knows 14 = .ok (.if_icmp .ge 7, 3) := by decide +kernel
theorem dX1_knows_17 : decode cX1_knows 17 = .ok (.iconst 1, 1) := by decide +kernel
theorem dX1_knows_18 : decode cX1_knows 18 = .ok (.goto 4, 3) := by decide +kernel
theorem dX1_knows_21 : decode cX1_knows 21 = .ok (.iconst 0, 1) := by decide +kernel
theorem dX1_knows_22 : decode cX1_knows 22 = .ok (.ireturn, 1) := by decide +kernel
theorem dX1_changeOf_0 : decode cX1_changeOf 0 = .ok (.aload_n 0, 1) := by decide +kernel
theorem dX1_changeOf_1 : decode cX1_changeOf 1 = .ok (.getfield 11, 3) := by decide +kernel
theorem dX1_changeOf_4 : decode cX1_changeOf 4 = .ok (.iload_n 1, 1) := by decide +kernel
theorem dX1_changeOf_5 : decode cX1_changeOf 5 = .ok (.bipush 20, 2) := by decide +kernel
theorem dX1_changeOf_7 : decode cX1_changeOf 7 = .ok (.imul, 1) := by decide +kernel
theorem dX1_changeOf_8 : decode cX1_changeOf 8 = .ok (.iload_n 2, 1) := by decide +kernel
theorem dX1_changeOf_9 : decode cX1_changeOf 9 = .ok (.iadd, 1) := by decide +kernel
theorem dX1_changeOf_10 : decode cX1_changeOf 10 = .ok (.aaload, 1) := by decide +kernel
theorem dX1_changeOf_11 : decode cX1_changeOf 11 = .ok (.areturn, 1) := by decide +kernel
theorem dX1_inOrder_0 : decode cX1_inOrder 0 = .ok (.aload_n 0, 1) := by decide +kernel
theorem dX1_inOrder_1 : decode cX1_inOrder 1 = .ok (.getfield 11, 3) := by decide +kernel
theorem dX1_inOrder_4 : decode cX1_inOrder 4 = .ok (.aload_n 0, 1) := by decide +kernel
theorem dX1_inOrder_5 : decode cX1_inOrder 5 = .ok (.getfield 17, 3) := by decide +kernel
theorem dX1_inOrder_8 : decode cX1_inOrder 8 = .ok (.iload_n 1, 1) := by decide +kernel
theorem dX1_inOrder_9 : decode cX1_inOrder 9 = .ok (.iaload, 1) := by decide +kernel
theorem dX1_inOrder_10 : decode cX1_inOrder 10 = .ok (.aaload, 1) := by decide +kernel
theorem dX1_inOrder_11 : decode cX1_inOrder 11 = .ok (.areturn, 1) := by decide +kernel
theorem dX1_isFull_0 : decode cX1_isFull 0 = .ok (.aload_n 0, 1) := by decide +kernel
theorem dX1_isFull_1 : decode cX1_isFull 1 = .ok (.getfield 21, 3) := by decide +kernel
theorem dX1_isFull_4 : decode cX1_isFull 4 = .ok (.iload_n 1, 1) := by decide +kernel
theorem dX1_isFull_5 : decode cX1_isFull 5 = .ok (.iaload, 1) := by decide +kernel
theorem dX1_isFull_6 : decode cX1_isFull 6 = .ok (.bipush 20, 2) := by decide +kernel
theorem dX1_isFull_8 : decode cX1_isFull 8 = .ok (.if_icmp .lt 7, 3) := by decide +kernel
theorem dX1_isFull_11 : decode cX1_isFull 11 = .ok (.iconst 1, 1) := by decide +kernel
theorem dX1_isFull_12 : decode cX1_isFull 12 = .ok (.goto 4, 3) := by decide +kernel
theorem dX1_isFull_15 : decode cX1_isFull 15 = .ok (.iconst 0, 1) := by decide +kernel
theorem dX1_isFull_16 : decode cX1_isFull 16 = .ok (.ireturn, 1) := by decide +kernel
theorem dX1_append_0 : decode cX1_append 0 = .ok (.aload_n 0, 1) := by decide +kernel
theorem dX1_append_1 : decode cX1_append 1 = .ok (.iload_n 1, 1) := by decide +kernel
theorem dX1_append_2 : decode cX1_append 2 = .ok (.aload_n 0, 1) := by decide +kernel
theorem dX1_append_3 : decode cX1_append 3 = .ok (.getfield 21, 3) := by decide +kernel
theorem dX1_append_6 : decode cX1_append 6 = .ok (.iload_n 1, 1) := by decide +kernel
theorem dX1_append_7 : decode cX1_append 7 = .ok (.iaload, 1) := by decide +kernel
theorem dX1_append_8 : decode cX1_append 8 = .ok (.invokevirtual 54, 3) := by decide +kernel
theorem dX1_append_11 : decode cX1_append 11 = .ok (.astore 4, 2) := by decide +kernel
theorem dX1_append_13 : decode cX1_append 13 = .ok (.aload 4, 2) := by decide +kernel
theorem dX1_append_15 : decode cX1_append 15 = .ok (.iload_n 1, 1) := by decide +kernel
theorem dX1_append_16 : decode cX1_append 16 = .ok (.putfield 48, 3) := by decide +kernel
theorem dX1_append_19 : decode cX1_append 19 = .ok (.aload 4, 2) := by decide +kernel
theorem dX1_append_21 : decode cX1_append 21 = .ok (.aload_n 0, 1) := by decide +kernel
theorem dX1_append_22 : decode cX1_append 22 = .ok (.getfield 21, 3) := by decide +kernel
theorem dX1_append_25 : decode cX1_append 25 = .ok (.iload_n 1, 1) := by decide +kernel
theorem dX1_append_26 : decode cX1_append 26 = .ok (.iaload, 1) := by decide +kernel
theorem dX1_append_27 : decode cX1_append 27 = .ok (.putfield 45, 3) := by decide +kernel
theorem dX1_append_30 : decode cX1_append 30 = .ok (.aload 4, 2) := by decide +kernel
theorem dX1_append_32 : decode cX1_append 32 = .ok (.iload_n 2, 1) := by decide +kernel
theorem dX1_append_33 : decode cX1_append 33 = .ok (.putfield 58, 3) := by decide +kernel
theorem dX1_append_36 : decode cX1_append 36 = .ok (.aload 4, 2) := by decide +kernel
theorem dX1_append_38 : decode cX1_append 38 = .ok (.iload_n 3, 1) := by decide +kernel
theorem dX1_append_39 : decode cX1_append 39 = .ok (.putfield 61, 3) := by decide +kernel
theorem dX1_append_42 : decode cX1_append 42 = .ok (.aload 4, 2) := by decide +kernel
theorem dX1_append_44 : decode cX1_append 44 = .ok (.aload_n 0, 1) := by decide +kernel
theorem dX1_append_45 : decode cX1_append 45 = .ok (.getfield 38, 3) := by decide +kernel
theorem dX1_append_48 : decode cX1_append 48 = .ok (.putfield 64, 3) := by decide +kernel
theorem dX1_append_51 : decode cX1_append 51 = .ok (.aload 4, 2) := by decide +kernel
theorem dX1_append_53 : decode cX1_append 53 = .ok (.iconst 1, 1) := by decide +kernel
theorem dX1_append_54 : decode cX1_append 54 = .ok (.putfield 67, 3) := by decide +kernel
theorem dX1_append_57 : decode cX1_append 57 = .ok (.iconst 0, 1) := by decide +kernel
theorem dX1_append_58 : decode cX1_append 58 = .ok (.istore 5, 2) := by decide +kernel
theorem dX1_append_60 : decode cX1_append 60 = .ok (.iload 5, 2) := by decide +kernel
theorem dX1_append_62 : decode cX1_append 62 = .ok (.iconst 4, 1) := by decide +kernel
theorem dX1_append_63 : decode cX1_append 63 = .ok (.if_icmp .ge 65, 3) := by decide +kernel
theorem dX1_append_66 : decode cX1_append 66 = .ok (.aload_n 0, 1) := by decide +kernel
theorem dX1_append_67 : decode cX1_append 67 = .ok (.aload_n 0, 1) := by decide +kernel
theorem dX1_append_68 : decode cX1_append 68 = .ok (.getfield 38, 3) := by decide +kernel
theorem dX1_append_71 : decode cX1_append 71 = .ok (.iload_n 1, 1) := by decide +kernel
theorem dX1_append_72 : decode cX1_append 72 = .ok (.iload 5, 2) := by decide +kernel
theorem dX1_append_74 : decode cX1_append 74 = .ok (.invokevirtual 51, 3) := by decide +kernel
theorem dX1_append_77 : decode cX1_append 77 = .ok (.istore 6, 2) := by decide +kernel
theorem dX1_append_79 : decode cX1_append 79 = .ok (.aload 4, 2) := by decide +kernel
theorem dX1_append_81 : decode cX1_append 81 = .ok (.getfield 70, 3) := by decide +kernel
theorem dX1_append_84 : decode cX1_append 84 = .ok (.iload 5, 2) := by decide +kernel
theorem dX1_append_86 : decode cX1_append 86 = .ok (.iload 6, 2) := by decide +kernel
theorem dX1_append_88 : decode cX1_append 88 = .ok (.iastore, 1) := by decide +kernel
theorem dX1_append_89 : decode cX1_append 89 = .ok (.iload 6, 2) := by decide +kernel
theorem dX1_append_91 : decode cX1_append 91 = .ok (.ifCond .le 31, 3) := by decide +kernel
theorem dX1_append_94 : decode cX1_append 94 = .ok (.aload 4, 2) := by decide +kernel
theorem dX1_append_96 : decode cX1_append 96 = .ok (.aload 4, 2) := by decide +kernel
theorem dX1_append_98 : decode cX1_append 98 = .ok (.getfield 67, 3) := by decide +kernel
theorem dX1_append_101 : decode cX1_append 101 = .ok (.iconst 1, 1) := by decide +kernel
theorem dX1_append_102 : decode cX1_append 102 = .ok (.aload_n 0, 1) := by decide +kernel
theorem dX1_append_103 : decode cX1_append 103 = .ok (.iload 5, 2) := by decide +kernel
theorem dX1_append_105 : decode cX1_append 105 = .ok (.iload 6, 2) := by decide +kernel
theorem dX1_append_107 : decode cX1_append 107 = .ok (.iconst 1, 1) := by decide +kernel
theorem dX1_append_108 : decode cX1_append 108 = .ok (.isub, 1) := by decide +kernel
theorem dX1_append_109 : decode cX1_append 109 = .ok (.invokevirtual 54, 3) := by decide +kernel
theorem dX1_append_112 : decode cX1_append 112 = .ok (.getfield 67, 3) := by decide +kernel
theorem dX1_append_115 : decode cX1_append 115 = .ok (.iadd, 1) := by decide +kernel
theorem dX1_append_116 : decode cX1_append 116 = .ok (.invokestatic 73, 3) := by decide +kernel
theorem dX1_append_119 : decode cX1_append 119 = .ok (.putfield 67, 3) := by decide +kernel
theorem dX1_append_122 : decode cX1_append 122 = .ok (.iinc 5 1, 3) := by decide +kernel
theorem dX1_append_125 : decode cX1_append 125 = .ok (.goto (-65), 3) := by decide +kernel
theorem dX1_append_128 : decode cX1_append 128 = .ok (.aload_n 0, 1) := by decide +kernel
theorem dX1_append_129 : decode cX1_append 129 = .ok (.aload 4, 2) := by decide +kernel
theorem dX1_append_131 : decode cX1_append 131 = .ok (.invokevirtual 79, 3) := by decide +kernel
theorem dX1_append_134 : decode cX1_append 134 = .ok (.aload_n 0, 1) := by decide +kernel
theorem dX1_append_135 : decode cX1_append 135 = .ok (.getfield 21, 3) := by decide +kernel
theorem dX1_append_138 : decode cX1_append 138 = .ok (.iload_n 1, 1) := by decide +kernel
theorem dX1_append_139 : decode cX1_append 139 = .ok (.dup2, 1) := by decide +kernel
theorem dX1_append_140 : decode cX1_append 140 = .ok (.iaload, 1) := by decide +kernel
theorem dX1_append_141 : decode cX1_append 141 = .ok (.iconst 1, 1) := by decide +kernel
theorem dX1_append_142 : decode cX1_append 142 = .ok (.iadd, 1) := by decide +kernel
theorem dX1_append_143 : decode cX1_append 143 = .ok (.iastore, 1) := by decide +kernel
theorem dX1_append_144 : decode cX1_append 144 = .ok (.aload_n 0, 1) := by decide +kernel
theorem dX1_append_145 : decode cX1_append 145 = .ok (.getfield 24, 3) := by decide +kernel
theorem dX1_append_148 : decode cX1_append 148 = .ok (.aload_n 0, 1) := by decide +kernel
theorem dX1_append_149 : decode cX1_append 149 = .ok (.getfield 38, 3) := by decide +kernel
theorem dX1_append_152 : decode cX1_append 152 = .ok (.iload_n 1, 1) := by decide +kernel
theorem dX1_append_153 : decode cX1_append 153 = .ok (.iload_n 1, 1) := by decide +kernel
theorem dX1_append_154 : decode cX1_append 154 = .ok (.invokestatic 41, 3) := by decide +kernel
theorem dX1_append_157 : decode cX1_append 157 = .ok (.dup2, 1) := by decide +kernel
theorem dX1_append_158 : decode cX1_append 158 = .ok (.iaload, 1) := by decide +kernel
theorem dX1_append_159 : decode cX1_append 159 = .ok (.iconst 1, 1) := by decide +kernel
theorem dX1_append_160 : decode cX1_append 160 = .ok (.iadd, 1) := by decide +kernel
theorem dX1_append_161 : decode cX1_append 161 = .ok (.iastore, 1) := by decide +kernel
theorem dX1_append_162 : decode cX1_append 162 = .ok (.aload_n 0, 1) := by decide +kernel
theorem dX1_append_163 : decode cX1_append 163 = .ok (.invokevirtual 83, 3) := by decide +kernel
theorem dX1_append_166 : decode cX1_append 166 = .ok (.aload 4, 2) := by decide +kernel
theorem dX1_append_168 : decode cX1_append 168 = .ok (.areturn, 1) := by decide +kernel
theorem dX1_putInOrder_0 : decode cX1_putInOrder 0 = .ok (.aload_n 0, 1) := by decide +kernel
theorem dX1_putInOrder_1 : decode cX1_putInOrder 1 = .ok (.getfield 34, 3) := by decide +kernel
theorem dX1_putInOrder_4 : decode cX1_putInOrder 4 = .ok (.istore_n 2, 1) := by decide +kernel
theorem dX1_putInOrder_5 : decode cX1_putInOrder 5 = .ok (.iload_n 2, 1) := by decide +kernel
theorem dX1_putInOrder_6 : decode cX1_putInOrder 6 = .ok (.ifCond .le 37, 3) := by decide +kernel
theorem dX1_putInOrder_9 : decode cX1_putInOrder 9 = .ok (.aload_n 1, 1) := by decide +kernel
theorem dX1_putInOrder_10 : decode cX1_putInOrder 10 = .ok (.aload_n 0, 1) := by decide +kernel
theorem dX1_putInOrder_11 : decode cX1_putInOrder 11 = .ok (.iload_n 2, 1) := by decide +kernel
theorem dX1_putInOrder_12 : decode cX1_putInOrder 12 = .ok (.iconst 1, 1) := by decide +kernel
theorem dX1_putInOrder_13 : decode cX1_putInOrder 13 = .ok (.isub, 1) := by decide +kernel
theorem dX1_putInOrder_14 : decode cX1_putInOrder 14 = .ok (.invokevirtual 86, 3) := by decide +kernel
theorem dX1_putInOrder_17 : decode cX1_putInOrder 17 = .ok (.invokevirtual 90, 3) := by decide +kernel
theorem dX1_putInOrder_20 : decode cX1_putInOrder 20 = .ok (.ifCond .eq 23, 3) := by decide +kernel
theorem dX1_putInOrder_23 : decode cX1_putInOrder 23 = .ok (.aload_n 0, 1) := by decide +kernel
theorem dX1_putInOrder_24 : decode cX1_putInOrder 24 = .ok (.getfield 17, 3) := by decide +kernel
theorem dX1_putInOrder_27 : decode cX1_putInOrder 27 = .ok (.iload_n 2, 1) := by decide +kernel
theorem dX1_putInOrder_28 : decode cX1_putInOrder 28 = .ok (.aload_n 0, 1) := by decide +kernel
theorem dX1_putInOrder_29 : decode cX1_putInOrder 29 = .ok (.getfield 17, 3) := by decide +kernel
theorem dX1_putInOrder_32 : decode cX1_putInOrder 32 = .ok (.iload_n 2, 1) := by decide +kernel
theorem dX1_putInOrder_33 : decode cX1_putInOrder 33 = .ok (.iconst 1, 1) := by decide +kernel
theorem dX1_putInOrder_34 : decode cX1_putInOrder 34 = .ok (.isub, 1) := by decide +kernel
theorem dX1_putInOrder_35 : decode cX1_putInOrder 35 = .ok (.iaload, 1) := by decide +kernel
theorem dX1_putInOrder_36 : decode cX1_putInOrder 36 = .ok (.iastore, 1) := by decide +kernel
theorem dX1_putInOrder_37 : decode cX1_putInOrder 37 = .ok (.iinc 2 (-1), 3) := by decide +kernel
theorem dX1_putInOrder_40 : decode cX1_putInOrder 40 = .ok (.goto (-35), 3) := by decide +kernel
theorem dX1_putInOrder_43 : decode cX1_putInOrder 43 = .ok (.aload_n 0, 1) := by decide +kernel
theorem dX1_putInOrder_44 : decode cX1_putInOrder 44 = .ok (.getfield 17, 3) := by decide +kernel
theorem dX1_putInOrder_47 : decode cX1_putInOrder 47 = .ok (.iload_n 2, 1) := by decide +kernel
theorem dX1_putInOrder_48 : decode cX1_putInOrder 48 = .ok (.aload_n 1, 1) := by decide +kernel
theorem dX1_putInOrder_49 : decode cX1_putInOrder 49 = .ok (.invokevirtual 94, 3) := by decide +kernel
theorem dX1_putInOrder_52 : decode cX1_putInOrder 52 = .ok (.iastore, 1) := by decide +kernel
theorem dX1_putInOrder_53 : decode cX1_putInOrder 53 = .ok (.aload_n 0, 1) := by decide +kernel
theorem dX1_putInOrder_54 : decode cX1_putInOrder 54 = .ok (.dup, 1) := by decide +kernel
theorem dX1_putInOrder_55 : decode cX1_putInOrder 55 = .ok (.getfield 34, 3) := by decide +kernel
theorem dX1_putInOrder_58 : decode cX1_putInOrder 58 = .ok (.iconst 1, 1) := by decide +kernel
theorem dX1_putInOrder_59 : decode cX1_putInOrder 59 = .ok (.iadd, 1) := by decide +kernel
theorem dX1_putInOrder_60 : decode cX1_putInOrder 60 = .ok (.putfield 34, 3) := by decide +kernel
theorem dX1_putInOrder_63 : decode cX1_putInOrder 63 = .ok (.return_, 1) := by decide +kernel
theorem dX1_leastUnmade_0 : decode cX1_leastUnmade 0 = .ok (.iconst 0, 1) := by decide +kernel
theorem dX1_leastUnmade_1 : decode cX1_leastUnmade 1 = .ok (.istore_n 2, 1) := by decide +kernel
theorem dX1_leastUnmade_2 : decode cX1_leastUnmade 2 = .ok (.iconst 0, 1) := by decide +kernel
theorem dX1_leastUnmade_3 : decode cX1_leastUnmade 3 = .ok (.istore_n 3, 1) := by decide +kernel
theorem dX1_leastUnmade_4 : decode cX1_leastUnmade 4 = .ok (.iload_n 3, 1) := by decide +kernel
theorem dX1_leastUnmade_5 : decode cX1_leastUnmade 5 = .ok (.aload_n 0, 1) := by decide +kernel
theorem dX1_leastUnmade_6 : decode cX1_leastUnmade 6 = .ok (.getfield 34, 3) := by decide +kernel
theorem dX1_leastUnmade_9 : decode cX1_leastUnmade 9 = .ok (.if_icmp .ge 48, 3) := by decide +kernel
theorem dX1_leastUnmade_12 : decode cX1_leastUnmade 12 = .ok (.aload_n 0, 1) := by decide +kernel
theorem dX1_leastUnmade_13 : decode cX1_leastUnmade 13 = .ok (.iload_n 3, 1) := by decide +kernel
theorem dX1_leastUnmade_14 : decode cX1_leastUnmade 14 = .ok (.invokevirtual 86, 3) := by decide +kernel
theorem dX1_leastUnmade_17 : decode cX1_leastUnmade 17 = .ok (.astore 4, 2) := by decide +kernel
theorem dX1_leastUnmade_19 : decode cX1_leastUnmade 19 = .ok (.aload 4, 2) := by decide +kernel
theorem dX1_leastUnmade_21 : decode cX1_leastUnmade 21 = .ok (.getfield 58, 3) := by decide +kernel
theorem dX1_leastUnmade_24 : decode cX1_leastUnmade 24 = .ok (.ifCond .ne 27, 3) := by decide +kernel
theorem dX1_leastUnmade_27 : decode cX1_leastUnmade 27 = .ok (.aload_n 0, 1) := by decide +kernel
theorem dX1_leastUnmade_28 : decode cX1_leastUnmade 28 = .ok (.aload_n 0, 1) := by decide +kernel
theorem dX1_leastUnmade_29 : decode cX1_leastUnmade 29 = .ok (.getfield 38, 3) := by decide +kernel
theorem dX1_leastUnmade_32 : decode cX1_leastUnmade 32 = .ok (.iload_n 1, 1) := by decide +kernel
theorem dX1_leastUnmade_33 : decode cX1_leastUnmade 33 = .ok (.aload 4, 2) := by decide +kernel
theorem dX1_leastUnmade_35 : decode cX1_leastUnmade 35 = .ok (.invokevirtual 98, 3) := by decide +kernel
theorem dX1_leastUnmade_38 : decode cX1_leastUnmade 38 = .ok (.ifCond .eq 13, 3) := by decide +kernel
theorem dX1_leastUnmade_41 : decode cX1_leastUnmade 41 = .ok (.iload_n 2, 1) := by decide +kernel
theorem dX1_leastUnmade_42 : decode cX1_leastUnmade 42 = .ok (.iconst 1, 1) := by decide +kernel
theorem dX1_leastUnmade_43 : decode cX1_leastUnmade 43 = .ok (.aload 4, 2) := by decide +kernel
theorem dX1_leastUnmade_45 : decode cX1_leastUnmade 45 = .ok (.getfield 61, 3) := by decide +kernel
theorem dX1_leastUnmade_48 : decode cX1_leastUnmade 48 = .ok (.ishl, 1) := by decide +kernel
theorem dX1_leastUnmade_49 : decode cX1_leastUnmade 49 = .ok (.ior, 1) := by decide +kernel
theorem dX1_leastUnmade_50 : decode cX1_leastUnmade 50 = .ok (.istore_n 2, 1) := by decide +kernel
theorem dX1_leastUnmade_51 : decode cX1_leastUnmade 51 = .ok (.iinc 3 1, 3) := by decide +kernel
theorem dX1_leastUnmade_54 : decode cX1_leastUnmade 54 = .ok (.goto (-50), 3) := by decide +kernel
theorem dX1_leastUnmade_57 : decode cX1_leastUnmade 57 = .ok (.iconst 1, 1) := by decide +kernel
theorem dX1_leastUnmade_58 : decode cX1_leastUnmade 58 = .ok (.istore_n 3, 1) := by decide +kernel
theorem dX1_leastUnmade_59 : decode cX1_leastUnmade 59 = .ok (.iload_n 3, 1) := by decide +kernel
theorem dX1_leastUnmade_60 : decode cX1_leastUnmade 60 = .ok (.bipush 12, 2) := by decide +kernel
theorem dX1_leastUnmade_62 : decode cX1_leastUnmade 62 = .ok (.if_icmp .ge 17, 3) := by decide +kernel
theorem dX1_leastUnmade_65 : decode cX1_leastUnmade 65 = .ok (.iload_n 2, 1) := by decide +kernel
theorem dX1_leastUnmade_66 : decode cX1_leastUnmade 66 = .ok (.iconst 1, 1) := by decide +kernel
theorem dX1_leastUnmade_67 : decode cX1_leastUnmade 67 = .ok (.iload_n 3, 1) := by decide +kernel
theorem dX1_leastUnmade_68 : decode cX1_leastUnmade 68 = .ok (.ishl, 1) := by decide +kernel
theorem dX1_leastUnmade_69 : decode cX1_leastUnmade 69 = .ok (.iand, 1) := by decide +kernel
theorem dX1_leastUnmade_70 : decode cX1_leastUnmade 70 = .ok (.ifCond .eq 9, 3) := by decide +kernel
theorem dX1_leastUnmade_73 : decode cX1_leastUnmade 73 = .ok (.iinc 3 1, 3) := by decide +kernel
theorem dX1_leastUnmade_76 : decode cX1_leastUnmade 76 = .ok (.goto (-17), 3) := by decide +kernel
theorem dX1_leastUnmade_79 : decode cX1_leastUnmade 79 = .ok (.iload_n 3, 1) := by decide +kernel
theorem dX1_leastUnmade_80 : decode cX1_leastUnmade 80 = .ok (.ireturn, 1) := by decide +kernel
theorem dX1_passOn_0 : decode cX1_passOn 0 = .ok (.iconst 0, 1) := by decide +kernel
theorem dX1_passOn_1 : decode cX1_passOn 1 = .ok (.istore 4, 2) := by decide +kernel
theorem dX1_passOn_3 : decode cX1_passOn 3 = .ok (.iconst 0, 1) := by decide +kernel
theorem dX1_passOn_4 : decode cX1_passOn 4 = .ok (.istore 5, 2) := by decide +kernel
theorem dX1_passOn_6 : decode cX1_passOn 6 = .ok (.iload 5, 2) := by decide +kernel
theorem dX1_passOn_8 : decode cX1_passOn 8 = .ok (.aload_n 0, 1) := by decide +kernel
theorem dX1_passOn_9 : decode cX1_passOn 9 = .ok (.getfield 34, 3) := by decide +kernel
theorem dX1_passOn_12 : decode cX1_passOn 12 = .ok (.if_icmp .ge 79, 3) := by decide +kernel
theorem dX1_passOn_15 : decode cX1_passOn 15 = .ok (.iload 4, 2) := by decide +kernel
theorem dX1_passOn_17 : decode cX1_passOn 17 = .ok (.iload_n 3, 1) := by decide +kernel
theorem dX1_passOn_18 : decode cX1_passOn 18 = .ok (.if_icmp .ge 73, 3) := by decide +kernel
theorem dX1_passOn_21 : decode cX1_passOn 21 = .ok (.aload_n 0, 1) := by decide +kernel
theorem dX1_passOn_22 : decode cX1_passOn 22 = .ok (.iload 5, 2) := by decide +kernel
theorem dX1_passOn_24 : decode cX1_passOn 24 = .ok (.invokevirtual 86, 3) := by decide +kernel
theorem dX1_passOn_27 : decode cX1_passOn 27 = .ok (.astore 6, 2) := by decide +kernel
theorem dX1_passOn_29 : decode cX1_passOn 29 = .ok (.aload_n 0, 1) := by decide +kernel
theorem dX1_passOn_30 : decode cX1_passOn 30 = .ok (.aload_n 0, 1) := by decide +kernel
theorem dX1_passOn_31 : decode cX1_passOn 31 = .ok (.getfield 38, 3) := by decide +kernel
theorem dX1_passOn_34 : decode cX1_passOn 34 = .ok (.iload_n 1, 1) := by decide +kernel
theorem dX1_passOn_35 : decode cX1_passOn 35 = .ok (.aload 6, 2) := by decide +kernel
theorem dX1_passOn_37 : decode cX1_passOn 37 = .ok (.invokevirtual 98, 3) := by decide +kernel
theorem dX1_passOn_40 : decode cX1_passOn 40 = .ok (.ifCond .eq 45, 3) := by decide +kernel
theorem dX1_passOn_43 : decode cX1_passOn 43 = .ok (.aload_n 0, 1) := by decide +kernel
theorem dX1_passOn_44 : decode cX1_passOn 44 = .ok (.aload_n 0, 1) := by decide +kernel
theorem dX1_passOn_45 : decode cX1_passOn 45 = .ok (.getfield 38, 3) := by decide +kernel
theorem dX1_passOn_48 : decode cX1_passOn 48 = .ok (.iload_n 2, 1) := by decide +kernel
theorem dX1_passOn_49 : decode cX1_passOn 49 = .ok (.aload 6, 2) := by decide +kernel
theorem dX1_passOn_51 : decode cX1_passOn 51 = .ok (.invokevirtual 98, 3) := by decide +kernel
theorem dX1_passOn_54 : decode cX1_passOn 54 = .ok (.ifCond .ne 31, 3) := by decide +kernel
theorem dX1_passOn_57 : decode cX1_passOn 57 = .ok (.aload_n 0, 1) := by decide +kernel
theorem dX1_passOn_58 : decode cX1_passOn 58 = .ok (.getfield 24, 3) := by decide +kernel
theorem dX1_passOn_61 : decode cX1_passOn 61 = .ok (.aload_n 0, 1) := by decide +kernel
theorem dX1_passOn_62 : decode cX1_passOn 62 = .ok (.getfield 38, 3) := by decide +kernel
theorem dX1_passOn_65 : decode cX1_passOn 65 = .ok (.iload_n 2, 1) := by decide +kernel
theorem dX1_passOn_66 : decode cX1_passOn 66 = .ok (.aload 6, 2) := by decide +kernel
theorem dX1_passOn_68 : decode cX1_passOn 68 = .ok (.getfield 48, 3) := by decide +kernel
theorem dX1_passOn_71 : decode cX1_passOn 71 = .ok (.invokestatic 41, 3) := by decide +kernel
theorem dX1_passOn_74 : decode cX1_passOn 74 = .ok (.aload 6, 2) := by decide +kernel
theorem dX1_passOn_76 : decode cX1_passOn 76 = .ok (.getfield 45, 3) := by decide +kernel
theorem dX1_passOn_79 : decode cX1_passOn 79 = .ok (.iconst 1, 1) := by decide +kernel
theorem dX1_passOn_80 : decode cX1_passOn 80 = .ok (.iadd, 1) := by decide +kernel
theorem dX1_passOn_81 : decode cX1_passOn 81 = .ok (.iastore, 1) := by decide +kernel
theorem dX1_passOn_82 : decode cX1_passOn 82 = .ok (.iinc 4 1, 3) := by decide +kernel
theorem dX1_passOn_85 : decode cX1_passOn 85 = .ok (.iinc 5 1, 3) := by decide +kernel
theorem dX1_passOn_88 : decode cX1_passOn 88 = .ok (.goto (-82), 3) := by decide +kernel
theorem dX1_passOn_91 : decode cX1_passOn 91 = .ok (.iload 4, 2) := by decide +kernel
theorem dX1_passOn_93 : decode cX1_passOn 93 = .ok (.ireturn, 1) := by decide +kernel
theorem dX1_nextDay_0 : decode cX1_nextDay 0 = .ok (.bipush 16, 2) := by decide +kernel
theorem dX1_nextDay_2 : decode cX1_nextDay 2 = .ok (.istore_n 1, 1) := by decide +kernel
theorem dX1_nextDay_3 : decode cX1_nextDay 3 = .ok (.aload_n 0, 1) := by decide +kernel
theorem dX1_nextDay_4 : decode cX1_nextDay 4 = .ok (.getfield 24, 3) := by decide +kernel
theorem dX1_nextDay_7 : decode cX1_nextDay 7 = .ok (.aload_n 0, 1) := by decide +kernel
theorem dX1_nextDay_8 : decode cX1_nextDay 8 = .ok (.getfield 38, 3) := by decide +kernel
theorem dX1_nextDay_11 : decode cX1_nextDay 11 = .ok (.iload_n 1, 1) := by decide +kernel
theorem dX1_nextDay_12 : decode cX1_nextDay 12 = .ok (.imul, 1) := by decide +kernel
theorem dX1_nextDay_13 : decode cX1_nextDay 13 = .ok (.aload_n 0, 1) := by decide +kernel
theorem dX1_nextDay_14 : decode cX1_nextDay 14 = .ok (.getfield 24, 3) := by decide +kernel
theorem dX1_nextDay_17 : decode cX1_nextDay 17 = .ok (.aload_n 0, 1) := by decide +kernel
theorem dX1_nextDay_18 : decode cX1_nextDay 18 = .ok (.getfield 38, 3) := by decide +kernel
theorem dX1_nextDay_21 : decode cX1_nextDay 21 = .ok (.iconst 1, 1) := by decide +kernel
theorem dX1_nextDay_22 : decode cX1_nextDay 22 = .ok (.iadd, 1) := by decide +kernel
theorem dX1_nextDay_23 : decode cX1_nextDay 23 = .ok (.iload_n 1, 1) := by decide +kernel
theorem dX1_nextDay_24 : decode cX1_nextDay 24 = .ok (.imul, 1) := by decide +kernel
theorem dX1_nextDay_25 : decode cX1_nextDay 25 = .ok (.iload_n 1, 1) := by decide +kernel
theorem dX1_nextDay_26 : decode cX1_nextDay 26 = .ok (.invokestatic 102, 3) := by decide +kernel
theorem dX1_nextDay_29 : decode cX1_nextDay 29 = .ok (.aload_n 0, 1) := by decide +kernel
theorem dX1_nextDay_30 : decode cX1_nextDay 30 = .ok (.dup, 1) := by decide +kernel
theorem dX1_nextDay_31 : decode cX1_nextDay 31 = .ok (.getfield 38, 3) := by decide +kernel
theorem dX1_nextDay_34 : decode cX1_nextDay 34 = .ok (.iconst 1, 1) := by decide +kernel
theorem dX1_nextDay_35 : decode cX1_nextDay 35 = .ok (.iadd, 1) := by decide +kernel
theorem dX1_nextDay_36 : decode cX1_nextDay 36 = .ok (.putfield 38, 3) := by decide +kernel
theorem dX1_nextDay_39 : decode cX1_nextDay 39 = .ok (.return_, 1) := by decide +kernel
theorem dX1_setApart_0 : decode cX1_setApart 0 = .ok (.aload_n 0, 1) := by decide +kernel
theorem dX1_setApart_1 : decode cX1_setApart 1 = .ok (.getfield 27, 3) := by decide +kernel
theorem dX1_setApart_4 : decode cX1_setApart 4 = .ok (.iload_n 1, 1) := by decide +kernel
theorem dX1_setApart_5 : decode cX1_setApart 5 = .ok (.iaload, 1) := by decide +kernel
theorem dX1_setApart_6 : decode cX1_setApart 6 = .ok (.istore_n 3, 1) := by decide +kernel
theorem dX1_setApart_7 : decode cX1_setApart 7 = .ok (.aload_n 0, 1) := by decide +kernel
theorem dX1_setApart_8 : decode cX1_setApart 8 = .ok (.getfield 27, 3) := by decide +kernel
theorem dX1_setApart_11 : decode cX1_setApart 11 = .ok (.iload_n 1, 1) := by decide +kernel
theorem dX1_setApart_12 : decode cX1_setApart 12 = .ok (.iload_n 2, 1) := by decide +kernel
theorem dX1_setApart_13 : decode cX1_setApart 13 = .ok (.iastore, 1) := by decide +kernel
theorem dX1_setApart_14 : decode cX1_setApart 14 = .ok (.aload_n 0, 1) := by decide +kernel
theorem dX1_setApart_15 : decode cX1_setApart 15 = .ok (.invokevirtual 83, 3) := by decide +kernel
theorem dX1_setApart_18 : decode cX1_setApart 18 = .ok (.iload_n 3, 1) := by decide +kernel
theorem dX1_setApart_19 : decode cX1_setApart 19 = .ok (.ireturn, 1) := by decide +kernel
theorem dX1_findLeftOut_0 : decode cX1_findLeftOut 0 = .ok (.iconst 0, 1) := by decide +kernel
theorem dX1_findLeftOut_1 : decode cX1_findLeftOut 1 = .ok (.istore_n 1, 1) := by decide +kernel
theorem dX1_findLeftOut_2 : decode cX1_findLeftOut 2 = .ok (.iload_n 1, 1) := by decide +kernel
theorem dX1_findLeftOut_3 : decode cX1_findLeftOut 3 = .ok (.iconst 4, 1) := by decide +kernel
theorem dX1_findLeftOut_4 : decode cX1_findLeftOut 4 = .ok (.if_icmp .ge 37, 3) := by decide +kernel
theorem dX1_findLeftOut_7 : decode cX1_findLeftOut 7 = .ok (.aload_n 0, 1) := by decide +kernel
theorem dX1_findLeftOut_8 : decode cX1_findLeftOut 8 = .ok (.getfield 30, 3) := by decide +kernel
theorem dX1_findLeftOut_11 : decode cX1_findLeftOut 11 = .ok (.iload_n 1, 1) := by decide +kernel
theorem dX1_findLeftOut_12 : decode cX1_findLeftOut 12 = .ok (.aload_n 0, 1) := by decide +kernel
theorem dX1_findLeftOut_13 : decode cX1_findLeftOut 13 = .ok (.getfield 27, 3) := by decide +kernel
theorem dX1_findLeftOut_16 : decode cX1_findLeftOut 16 = .ok (.iload_n 1, 1) := by decide +kernel
theorem dX1_findLeftOut_17 : decode cX1_findLeftOut 17 = .ok (.iaload, 1) := by decide +kernel
theorem dX1_findLeftOut_18 : decode cX1_findLeftOut 18 = .ok (.bipush (-9), 2) := by decide +kernel
theorem dX1_findLeftOut_20 : decode cX1_findLeftOut 20 = .ok (.if_icmp .ne 8, 3) := by decide +kernel
theorem dX1_findLeftOut_23 : decode cX1_findLeftOut 23 = .ok (.bipush 20, 2) := by decide +kernel
theorem dX1_findLeftOut_25 : decode cX1_findLeftOut 25 = .ok (.goto 9, 3) := by decide +kernel
theorem dX1_findLeftOut_28 : decode cX1_findLeftOut 28 = .ok (.aload_n 0, 1) := by decide +kernel
theorem dX1_findLeftOut_29 : decode cX1_findLeftOut 29 = .ok (.getfield 27, 3) := by decide +kernel
theorem dX1_findLeftOut_32 : decode cX1_findLeftOut 32 = .ok (.iload_n 1, 1) := by decide +kernel
theorem dX1_findLeftOut_33 : decode cX1_findLeftOut 33 = .ok (.iaload, 1) := by decide +kernel
theorem dX1_findLeftOut_34 : decode cX1_findLeftOut 34 = .ok (.iastore, 1) := by decide +kernel
theorem dX1_findLeftOut_35 : decode cX1_findLeftOut 35 = .ok (.iinc 1 1, 3) := by decide +kernel
theorem dX1_findLeftOut_38 : decode cX1_findLeftOut 38 = .ok (.goto (-36), 3) := by decide +kernel
theorem dX1_findLeftOut_41 : decode cX1_findLeftOut 41 = .ok (.iconst 0, 1) := by decide +kernel
theorem dX1_findLeftOut_42 : decode cX1_findLeftOut 42 = .ok (.istore_n 1, 1) := by decide +kernel
theorem dX1_findLeftOut_43 : decode cX1_findLeftOut 43 = .ok (.iload_n 1, 1) := by decide +kernel
theorem dX1_findLeftOut_44 : decode cX1_findLeftOut 44 = .ok (.aload_n 0, 1) := by decide +kernel
theorem dX1_findLeftOut_45 : decode cX1_findLeftOut 45 = .ok (.getfield 34, 3) := by decide +kernel
theorem dX1_findLeftOut_48 : decode cX1_findLeftOut 48 = .ok (.if_icmp .ge 48, 3) := by decide +kernel
theorem dX1_findLeftOut_51 : decode cX1_findLeftOut 51 = .ok (.aload_n 0, 1) := by decide +kernel
theorem dX1_findLeftOut_52 : decode cX1_findLeftOut 52 = .ok (.iload_n 1, 1) := by decide +kernel
theorem dX1_findLeftOut_53 : decode cX1_findLeftOut 53 = .ok (.invokevirtual 86, 3) := by decide +kernel
theorem dX1_findLeftOut_56 : decode cX1_findLeftOut 56 = .ok (.astore_n 2, 1) := by decide +kernel
theorem dX1_findLeftOut_57 : decode cX1_findLeftOut 57 = .ok (.aload_n 0, 1) := by decide +kernel
theorem dX1_findLeftOut_58 : decode cX1_findLeftOut 58 = .ok (.aload_n 2, 1) := by decide +kernel
theorem dX1_findLeftOut_59 : decode cX1_findLeftOut 59 = .ok (.invokevirtual 108, 3) := by decide +kernel
theorem dX1_findLeftOut_62 : decode cX1_findLeftOut 62 = .ok (.ifCond .eq 28, 3) := by decide +kernel
theorem dX1_findLeftOut_65 : decode cX1_findLeftOut 65 = .ok (.aload_n 0, 1) := by decide +kernel
theorem dX1_findLeftOut_66 : decode cX1_findLeftOut 66 = .ok (.getfield 30, 3) := by decide +kernel
theorem dX1_findLeftOut_69 : decode cX1_findLeftOut 69 = .ok (.aload_n 2, 1) := by decide +kernel
theorem dX1_findLeftOut_70 : decode cX1_findLeftOut 70 = .ok (.getfield 48, 3) := by decide +kernel
theorem dX1_findLeftOut_73 : decode cX1_findLeftOut 73 = .ok (.aload_n 0, 1) := by decide +kernel
theorem dX1_findLeftOut_74 : decode cX1_findLeftOut 74 = .ok (.getfield 30, 3) := by decide +kernel
theorem dX1_findLeftOut_77 : decode cX1_findLeftOut 77 = .ok (.aload_n 2, 1) := by decide +kernel
theorem dX1_findLeftOut_78 : decode cX1_findLeftOut 78 = .ok (.getfield 48, 3) := by decide +kernel
theorem dX1_findLeftOut_81 : decode cX1_findLeftOut 81 = .ok (.iaload, 1) := by decide +kernel
theorem dX1_findLeftOut_82 : decode cX1_findLeftOut 82 = .ok (.aload_n 2, 1) := by decide +kernel
theorem dX1_findLeftOut_83 : decode cX1_findLeftOut 83 = .ok (.getfield 45, 3) := by decide +kernel
theorem dX1_findLeftOut_86 : decode cX1_findLeftOut 86 = .ok (.invokestatic 111, 3) := by decide +kernel
theorem dX1_findLeftOut_89 : decode cX1_findLeftOut 89 = .ok (.iastore, 1) := by decide +kernel
theorem dX1_findLeftOut_90 : decode cX1_findLeftOut 90 = .ok (.iinc 1 1, 3) := by decide +kernel
theorem dX1_findLeftOut_93 : decode cX1_findLeftOut 93 = .ok (.goto (-50), 3) := by decide +kernel
theorem dX1_findLeftOut_96 : decode cX1_findLeftOut 96 = .ok (.return_, 1) := by decide +kernel
theorem dX1_standsOnLeftOut_0 : decode cX1_standsOnLeftOut 0 = .ok (.iconst 0, 1) := by decide +kernel
theorem dX1_standsOnLeftOut_1 : decode cX1_standsOnLeftOut 1 = .ok (.istore_n 2, 1) := by decide +kernel
theorem dX1_standsOnLeftOut_2 : decode cX1_standsOnLeftOut 2 = .ok (.iload_n 2, 1) := by decide +kernel
theorem dX1_standsOnLeftOut_3 : decode cX1_standsOnLeftOut 3 = .ok (.iconst 4, 1) := by decide +kernel
theorem dX1_standsOnLeftOut_4 : decode cX1_standsOnLeftOut 4 = .ok (.if_icmp .ge 26, 3) := by decide +kernel
theorem dX1_standsOnLeftOut_7 : decode cX1_standsOnLeftOut 7 = .ok (.aload_n 1, 1) := by decide +kernel
theorem dX1_standsOnLeftOut_8 : decode cX1_standsOnLeftOut 8 = .ok (.getfield 70, 3) := by decide +kernel
theorem dX1_standsOnLeftOut_11 : decode cX1_standsOnLeftOut 11 = .ok (.iload_n 2, 1) := by decide +kernel
theorem dX1_standsOnLeftOut_12 : decode cX1_standsOnLeftOut 12 = .ok (.iaload, 1) := by decide +kernel
theorem dX1_standsOnLeftOut_13 : decode cX1_standsOnLeftOut 13 = .ok (.aload_n 0, 1) := by decide +kernel
theorem dX1_standsOnLeftOut_14 : decode cX1_standsOnLeftOut 14 = .ok (.getfield 30, 3) := by decide +kernel
theorem dX1_standsOnLeftOut_17 : decode cX1_standsOnLeftOut 17 = .ok (.iload_n 2, 1) := by decide +kernel
theorem dX1_standsOnLeftOut_18 : decode cX1_standsOnLeftOut 18 = .ok (.iaload, 1) := by decide +kernel
theorem dX1_standsOnLeftOut_19 : decode cX1_standsOnLeftOut 19 = .ok (.if_icmp .le 5, 3) := by decide +kernel
theorem dX1_standsOnLeftOut_22 : decode cX1_standsOnLeftOut 22 = .ok (.iconst 1, 1) := by decide +kernel
theorem dX1_standsOnLeftOut_23 : decode cX1_standsOnLeftOut 23 = .ok (.ireturn, 1) := by decide +kernel
theorem dX1_standsOnLeftOut_24 : decode cX1_standsOnLeftOut 24 = .ok (.iinc 2 1, 3) := by decide +kernel
theorem dX1_standsOnLeftOut_27 : decode cX1_standsOnLeftOut 27 = .ok (.goto (-25), 3) := by decide +kernel
theorem dX1_standsOnLeftOut_30 : decode cX1_standsOnLeftOut 30 = .ok (.iconst 0, 1) := by decide +kernel
theorem dX1_standsOnLeftOut_31 : decode cX1_standsOnLeftOut 31 = .ok (.ireturn, 1) := by decide +kernel
theorem dX1_isLeftOut_0 : decode cX1_isLeftOut 0 = .ok (.aload_n 1, 1) := by decide +kernel
theorem dX1_isLeftOut_1 : decode cX1_isLeftOut 1 = .ok (.getfield 45, 3) := by decide +kernel
theorem dX1_isLeftOut_4 : decode cX1_isLeftOut 4 = .ok (.aload_n 0, 1) := by decide +kernel
theorem dX1_isLeftOut_5 : decode cX1_isLeftOut 5 = .ok (.getfield 30, 3) := by decide +kernel
theorem dX1_isLeftOut_8 : decode cX1_isLeftOut 8 = .ok (.aload_n 1, 1) := by decide +kernel
theorem dX1_isLeftOut_9 : decode cX1_isLeftOut 9 = .ok (.getfield 48, 3) := by decide +kernel
theorem dX1_isLeftOut_12 : decode cX1_isLeftOut 12 = .ok (.iaload, 1) := by decide +kernel
theorem dX1_isLeftOut_13 : decode cX1_isLeftOut 13 = .ok (.if_icmp .lt 7, 3) := by decide +kernel
theorem dX1_isLeftOut_16 : decode cX1_isLeftOut 16 = .ok (.iconst 1, 1) := by decide +kernel
theorem dX1_isLeftOut_17 : decode cX1_isLeftOut 17 = .ok (.goto 4, 3) := by decide +kernel
theorem dX1_isLeftOut_20 : decode cX1_isLeftOut 20 = .ok (.iconst 0, 1) := by decide +kernel
theorem dX1_isLeftOut_21 : decode cX1_isLeftOut 21 = .ok (.ireturn, 1) := by decide +kernel
theorem dX1_leftOutInAll_0 : decode cX1_leftOutInAll 0 = .ok (.iconst 0, 1) := by decide +kernel
theorem dX1_leftOutInAll_1 : decode cX1_leftOutInAll 1 = .ok (.istore_n 1, 1) := by decide +kernel
theorem dX1_leftOutInAll_2 : decode cX1_leftOutInAll 2 = .ok (.iconst 0, 1) := by decide +kernel
theorem dX1_leftOutInAll_3 : decode cX1_leftOutInAll 3 = .ok (.istore_n 2, 1) := by decide +kernel
theorem dX1_leftOutInAll_4 : decode cX1_leftOutInAll 4 = .ok (.iload_n 2, 1) := by decide +kernel
theorem dX1_leftOutInAll_5 : decode cX1_leftOutInAll 5 = .ok (.iconst 4, 1) := by decide +kernel
theorem dX1_leftOutInAll_6 : decode cX1_leftOutInAll 6 = .ok (.if_icmp .ge 29, 3) := by decide +kernel
theorem dX1_leftOutInAll_9 : decode cX1_leftOutInAll 9 = .ok (.iload_n 1, 1) := by decide +kernel
theorem dX1_leftOutInAll_10 : decode cX1_leftOutInAll 10 = .ok (.iconst 0, 1) := by decide +kernel
theorem dX1_leftOutInAll_11 : decode cX1_leftOutInAll 11 = .ok (.aload_n 0, 1) := by decide +kernel
theorem dX1_leftOutInAll_12 : decode cX1_leftOutInAll 12 = .ok (.getfield 21, 3) := by decide +kernel
theorem dX1_leftOutInAll_15 : decode cX1_leftOutInAll 15 = .ok (.iload_n 2, 1) := by decide +kernel
theorem dX1_leftOutInAll_16 : decode cX1_leftOutInAll 16 = .ok (.iaload, 1) := by decide +kernel
theorem dX1_leftOutInAll_17 : decode cX1_leftOutInAll 17 = .ok (.aload_n 0, 1) := by decide +kernel
theorem dX1_leftOutInAll_18 : decode cX1_leftOutInAll 18 = .ok (.getfield 30, 3) := by decide +kernel
theorem dX1_leftOutInAll_21 : decode cX1_leftOutInAll 21 = .ok (.iload_n 2, 1) := by decide +kernel
theorem dX1_leftOutInAll_22 : decode cX1_leftOutInAll 22 = .ok (.iaload, 1) := by decide +kernel
theorem dX1_leftOutInAll_23 : decode cX1_leftOutInAll 23 = .ok (.isub, 1) := by decide +kernel
theorem dX1_leftOutInAll_24 : decode cX1_leftOutInAll 24 = .ok (.invokestatic 73, 3) := by decide +kernel
theorem dX1_leftOutInAll_27 : decode cX1_leftOutInAll 27 = .ok (.iadd, 1) := by decide +kernel
theorem dX1_leftOutInAll_28 : decode cX1_leftOutInAll 28 = .ok (.istore_n 1, 1) := by decide +kernel
theorem dX1_leftOutInAll_29 : decode cX1_leftOutInAll 29 = .ok (.iinc 2 1, 3) := by decide +kernel
theorem dX1_leftOutInAll_32 : decode cX1_leftOutInAll 32 = .ok (.goto (-28), 3) := by decide +kernel
theorem dX1_leftOutInAll_35 : decode cX1_leftOutInAll 35 = .ok (.iload_n 1, 1) := by decide +kernel
theorem dX1_leftOutInAll_36 : decode cX1_leftOutInAll 36 = .ok (.ireturn, 1) := by decide +kernel
theorem dX1_madeOnDay_0 : decode cX1_madeOnDay 0 = .ok (.iconst 0, 1) := by decide +kernel
theorem dX1_madeOnDay_1 : decode cX1_madeOnDay 1 = .ok (.istore_n 3, 1) := by decide +kernel
theorem dX1_madeOnDay_2 : decode cX1_madeOnDay 2 = .ok (.iconst 0, 1) := by decide +kernel
theorem dX1_madeOnDay_3 : decode cX1_madeOnDay 3 = .ok (.istore 4, 2) := by decide +kernel
theorem dX1_madeOnDay_5 : decode cX1_madeOnDay 5 = .ok (.iload 4, 2) := by decide +kernel
theorem dX1_madeOnDay_7 : decode cX1_madeOnDay 7 = .ok (.aload_n 0, 1) := by decide +kernel
theorem dX1_madeOnDay_8 : decode cX1_madeOnDay 8 = .ok (.getfield 21, 3) := by decide +kernel
theorem dX1_madeOnDay_11 : decode cX1_madeOnDay 11 = .ok (.iload_n 1, 1) := by decide +kernel
theorem dX1_madeOnDay_12 : decode cX1_madeOnDay 12 = .ok (.iaload, 1) := by decide +kernel
theorem dX1_madeOnDay_13 : decode cX1_madeOnDay 13 = .ok (.if_icmp .ge 26, 3) := by decide +kernel
theorem dX1_madeOnDay_16 : decode cX1_madeOnDay 16 = .ok (.aload_n 0, 1) := by decide +kernel
theorem dX1_madeOnDay_17 : decode cX1_madeOnDay 17 = .ok (.iload_n 1, 1) := by decide +kernel
theorem dX1_madeOnDay_18 : decode cX1_madeOnDay 18 = .ok (.iload 4, 2) := by decide +kernel
theorem dX1_madeOnDay_20 : decode cX1_madeOnDay 20 = .ok (.invokevirtual 54, 3) := by decide +kernel
theorem dX1_madeOnDay_23 : decode cX1_madeOnDay 23 = .ok (.getfield 64, 3) := by decide +kernel
theorem dX1_madeOnDay_26 : decode cX1_madeOnDay 26 = .ok (.iload_n 2, 1) := by decide +kernel
theorem dX1_madeOnDay_27 : decode cX1_madeOnDay 27 = .ok (.if_icmp .ne 6, 3) := by decide +kernel
theorem dX1_madeOnDay_30 : decode cX1_madeOnDay 30 = .ok (.iinc 3 1, 3) := by decide +kernel
theorem dX1_madeOnDay_33 : decode cX1_madeOnDay 33 = .ok (.iinc 4 1, 3) := by decide +kernel
theorem dX1_madeOnDay_36 : decode cX1_madeOnDay 36 = .ok (.goto (-31), 3) := by decide +kernel
theorem dX1_madeOnDay_39 : decode cX1_madeOnDay 39 = .ok (.iload_n 3, 1) := by decide +kernel
theorem dX1_madeOnDay_40 : decode cX1_madeOnDay 40 = .ok (.ireturn, 1) := by decide +kernel
end
section
theorem dX2_init_0 : decode cX2_init 0 = .ok (.aload_n 0, 1) := by decide +kernel
theorem dX2_init_1 : decode cX2_init 1 = .ok (.invokespecial 3, 3) := by decide +kernel
theorem dX2_init_4 : decode cX2_init 4 = .ok (.aload_n 0, 1) := by decide +kernel
theorem dX2_init_5 : decode cX2_init 5 = .ok (.iconst 0, 1) := by decide +kernel
theorem dX2_init_6 : decode cX2_init 6 = .ok (.iload_n 1, 1) := by decide +kernel
theorem dX2_init_7 : decode cX2_init 7 = .ok (.invokestatic 9, 3) := by decide +kernel
theorem dX2_init_10 : decode cX2_init 10 = .ok (.newarray .long, 2) := by decide +kernel
theorem dX2_init_12 : decode cX2_init 12 = .ok (.putfield 15, 3) := by decide +kernel
theorem dX2_init_15 : decode cX2_init 15 = .ok (.aload_n 0, 1) := by decide +kernel
theorem dX2_init_16 : decode cX2_init 16 = .ok (.iconst 0, 1) := by decide +kernel
theorem dX2_init_17 : decode cX2_init 17 = .ok (.iload_n 1, 1) := by decide +kernel
theorem dX2_init_18 : decode cX2_init 18 = .ok (.invokestatic 9, 3) := by decide +kernel
theorem dX2_init_21 : decode cX2_init 21 = .ok (.newarray .int, 2) := by decide +kernel
theorem dX2_init_23 : decode cX2_init 23 = .ok (.putfield 21, 3) := by decide +kernel
theorem dX2_init_26 : decode cX2_init 26 = .ok (.return_, 1) := by decide +kernel
theorem dX2_empty_0 : decode cX2_empty 0 = .ok (.aload_n 0, 1) := by decide +kernel
theorem dX2_empty_1 : decode cX2_empty 1 = .ok (.iconst 0, 1) := by decide +kernel
theorem dX2_empty_2 : decode cX2_empty 2 = .ok (.putfield 25, 3) := by decide +kernel
theorem dX2_empty_5 : decode cX2_empty 5 = .ok (.aload_n 0, 1) := by decide +kernel
theorem dX2_empty_6 : decode cX2_empty 6 = .ok (.iconst 0, 1) := by decide +kernel
theorem dX2_empty_7 : decode cX2_empty 7 = .ok (.putfield 29, 3) := by decide +kernel
theorem dX2_empty_10 : decode cX2_empty 10 = .ok (.return_, 1) := by decide +kernel
theorem dX2_placeOf_0 : decode cX2_placeOf 0 = .ok (.iconst 0, 1) := by decide +kernel
theorem dX2_placeOf_1 : decode cX2_placeOf 1 = .ok (.istore 4, 2) := by decide +kernel
theorem dX2_placeOf_3 : decode cX2_placeOf 3 = .ok (.iload 4, 2) := by decide +kernel
theorem dX2_placeOf_5 : decode cX2_placeOf 5 = .ok (.aload_n 0, 1) := by decide +kernel
theorem dX2_placeOf_6 : decode cX2_placeOf 6 = .ok (.getfield 25, 3) := by decide +kernel
theorem dX2_placeOf_9 : decode cX2_placeOf 9 = .ok (.if_icmp .ge 35, 3) := by decide +kernel
theorem dX2_placeOf_12 : decode cX2_placeOf 12 = .ok (.aload_n 0, 1) := by decide +kernel
theorem dX2_placeOf_13 : decode cX2_placeOf 13 = .ok (.getfield 15, 3) := by decide +kernel
theorem dX2_placeOf_16 : decode cX2_placeOf 16 = .ok (.iload 4, 2) := by decide +kernel
theorem dX2_placeOf_18 : decode cX2_placeOf 18 = .ok (.laload, 1) := by decide +kernel
theorem dX2_placeOf_19 : decode cX2_placeOf 19 = .ok (.lload_n 1, 1) := by decide +kernel
theorem dX2_placeOf_20 : decode cX2_placeOf 20 = .ok (.lcmp, 1) := by decide +kernel
theorem dX2_placeOf_21 : decode cX2_placeOf 21 = .ok (.ifCond .ne 17, 3) := by decide +kernel
theorem dX2_placeOf_24 : decode cX2_placeOf 24 = .ok (.aload_n 0, 1) := by decide +kernel
theorem dX2_placeOf_25 : decode cX2_placeOf 25 = .ok (.getfield 21, 3) := by decide +kernel
theorem dX2_placeOf_28 : decode cX2_placeOf 28 = .ok (.iload 4, 2) := by decide +kernel
theorem dX2_placeOf_30 : decode cX2_placeOf 30 = .ok (.iaload, 1) := by decide +kernel
theorem dX2_placeOf_31 : decode cX2_placeOf 31 = .ok (.iload_n 3, 1) := by decide +kernel
theorem dX2_placeOf_32 : decode cX2_placeOf 32 = .ok (.if_icmp .ne 6, 3) := by decide +kernel
theorem dX2_placeOf_35 : decode cX2_placeOf 35 = .ok (.iload 4, 2) := by decide +kernel
theorem dX2_placeOf_37 : decode cX2_placeOf 37 = .ok (.ireturn, 1) := by decide +kernel
theorem dX2_placeOf_38 : decode cX2_placeOf 38 = .ok (.iinc 4 1, 3) := by decide +kernel
theorem dX2_placeOf_41 : decode cX2_placeOf 41 = .ok (.goto (-38), 3) := by decide +kernel
theorem dX2_placeOf_44 : decode cX2_placeOf 44 = .ok (.bipush (-9), 2) := by decide +kernel
theorem dX2_placeOf_46 : decode cX2_placeOf 46 = .ok (.ireturn, 1) := by decide +kernel
theorem dX2_has_0 : decode cX2_has 0 = .ok (.aload_n 0, 1) := by decide +kernel
theorem dX2_has_1 : decode cX2_has 1 = .ok (.lload_n 1, 1) := by decide +kernel
theorem dX2_has_2 : decode cX2_has 2 = .ok (.iload_n 3, 1) := by decide +kernel
theorem dX2_has_3 : decode cX2_has 3 = .ok (.invokevirtual 32, 3) := by decide +kernel
theorem dX2_has_6 : decode cX2_has 6 = .ok (.bipush (-9), 2) := by decide +kernel
theorem dX2_has_8 : decode cX2_has 8 = .ok (.if_icmp .eq 7, 3) := by decide +kernel
theorem dX2_has_11 : decode cX2_has 11 = .ok (.iconst 1, 1) := by decide +kernel
theorem dX2_has_12 : decode cX2_has 12 = .ok (.goto 4, 3) := by decide +kernel
theorem dX2_has_15 : decode cX2_has 15 = .ok (.iconst 0, 1) := by decide +kernel
theorem dX2_has_16 : decode cX2_has 16 = .ok (.ireturn, 1) := by decide +kernel
theorem dX2_add_0 : decode cX2_add 0 = .ok (.aload_n 0, 1) := by decide +kernel
theorem dX2_add_1 : decode cX2_add 1 = .ok (.lload_n 1, 1) := by decide +kernel
theorem dX2_add_2 : decode cX2_add 2 = .ok (.iload_n 3, 1) := by decide +kernel
theorem dX2_add_3 : decode cX2_add 3 = .ok (.invokevirtual 36, 3) := by decide +kernel
theorem dX2_add_6 : decode cX2_add 6 = .ok (.ifCond .ne 55, 3) := by decide +kernel
theorem dX2_add_9 : decode cX2_add 9 = .ok (.aload_n 0, 1) := by decide +kernel
theorem dX2_add_10 : decode cX2_add 10 = .ok (.getfield 25, 3) := by decide +kernel
theorem dX2_add_13 : decode cX2_add 13 = .ok (.aload_n 0, 1) := by decide +kernel
theorem dX2_add_14 : decode cX2_add 14 = .ok (.getfield 15, 3) := by decide +kernel
theorem dX2_add_17 : decode cX2_add 17 = .ok (.arraylength, 1) := by decide +kernel
theorem dX2_add_18 : decode cX2_add 18 = .ok (.if_icmp .ge 43, 3) := by decide +kernel
theorem dX2_add_21 : decode cX2_add 21 = .ok (.aload_n 0, 1) := by decide +kernel
theorem dX2_add_22 : decode cX2_add 22 = .ok (.getfield 15, 3) := by decide +kernel
theorem dX2_add_25 : decode cX2_add 25 = .ok (.aload_n 0, 1) := by decide +kernel
theorem dX2_add_26 : decode cX2_add 26 = .ok (.getfield 25, 3) := by decide +kernel
theorem dX2_add_29 : decode cX2_add 29 = .ok (.lload_n 1, 1) := by decide +kernel
theorem dX2_add_30 : decode cX2_add 30 = .ok (.lastore, 1) := by decide +kernel
theorem dX2_add_31 : decode cX2_add 31 = .ok (.aload_n 0, 1) := by decide +kernel
theorem dX2_add_32 : decode cX2_add 32 = .ok (.getfield 21, 3) := by decide +kernel
theorem dX2_add_35 : decode cX2_add 35 = .ok (.aload_n 0, 1) := by decide +kernel
theorem dX2_add_36 : decode cX2_add 36 = .ok (.getfield 25, 3) := by decide +kernel
theorem dX2_add_39 : decode cX2_add 39 = .ok (.iload_n 3, 1) := by decide +kernel
theorem dX2_add_40 : decode cX2_add 40 = .ok (.iastore, 1) := by decide +kernel
theorem dX2_add_41 : decode cX2_add 41 = .ok (.aload_n 0, 1) := by decide +kernel
theorem dX2_add_42 : decode cX2_add 42 = .ok (.dup, 1) := by decide +kernel
theorem dX2_add_43 : decode cX2_add 43 = .ok (.getfield 25, 3) := by decide +kernel
theorem dX2_add_46 : decode cX2_add 46 = .ok (.iconst 1, 1) := by decide +kernel
theorem dX2_add_47 : decode cX2_add 47 = .ok (.iadd, 1) := by decide +kernel
theorem dX2_add_48 : decode cX2_add 48 = .ok (.putfield 25, 3) := by decide +kernel
theorem dX2_add_51 : decode cX2_add 51 = .ok (.aload_n 0, 1) := by decide +kernel
theorem dX2_add_52 : decode cX2_add 52 = .ok (.dup, 1) := by decide +kernel
theorem dX2_add_53 : decode cX2_add 53 = .ok (.getfield 29, 3) := by decide +kernel
theorem dX2_add_56 : decode cX2_add 56 = .ok (.iload_n 3, 1) := by decide +kernel
theorem dX2_add_57 : decode cX2_add 57 = .ok (.iadd, 1) := by decide +kernel
theorem dX2_add_58 : decode cX2_add 58 = .ok (.putfield 29, 3) := by decide +kernel
theorem dX2_add_61 : decode cX2_add 61 = .ok (.return_, 1) := by decide +kernel
theorem dX2_removeAt_0 : decode cX2_removeAt 0 = .ok (.aload_n 0, 1) := by decide +kernel
theorem dX2_removeAt_1 : decode cX2_removeAt 1 = .ok (.dup, 1) := by decide +kernel
theorem dX2_removeAt_2 : decode cX2_removeAt 2 = .ok (.getfield 29, 3) := by decide +kernel
theorem dX2_removeAt_5 : decode cX2_removeAt 5 = .ok (.aload_n 0, 1) := by decide +kernel
theorem dX2_removeAt_6 : decode cX2_removeAt 6 = .ok (.getfield 21, 3) := by decide +kernel
theorem dX2_removeAt_9 : decode cX2_removeAt 9 = .ok (.iload_n 1, 1) := by decide +kernel
theorem dX2_removeAt_10 : decode cX2_removeAt 10 = .ok (.iaload, 1) := by decide +kernel
theorem dX2_removeAt_11 : decode cX2_removeAt 11 = .ok (.isub, 1) := by decide +kernel
theorem dX2_removeAt_12 : decode cX2_removeAt 12 = .ok (.putfield 29, 3) := by decide +kernel
theorem dX2_removeAt_15 : decode cX2_removeAt 15 = .ok (.aload_n 0, 1) := by decide +kernel
theorem dX2_removeAt_16 : decode cX2_removeAt 16 = .ok (.dup, 1) := by decide +kernel
theorem dX2_removeAt_17 : decode cX2_removeAt 17 = .ok (.getfield 25, 3) := by decide +kernel
theorem dX2_removeAt_20 : decode cX2_removeAt 20 = .ok (.iconst 1, 1) := by decide +kernel
theorem dX2_removeAt_21 : decode cX2_removeAt 21 = .ok (.isub, 1) := by decide +kernel
theorem dX2_removeAt_22 : decode cX2_removeAt 22 = .ok (.putfield 25, 3) := by decide +kernel
theorem dX2_removeAt_25 : decode cX2_removeAt 25 = .ok (.aload_n 0, 1) := by decide +kernel
theorem dX2_removeAt_26 : decode cX2_removeAt 26 = .ok (.getfield 15, 3) := by decide +kernel
theorem dX2_removeAt_29 : decode cX2_removeAt 29 = .ok (.iload_n 1, 1) := by decide +kernel
theorem dX2_removeAt_30 : decode cX2_removeAt 30 = .ok (.aload_n 0, 1) := by decide +kernel
theorem dX2_removeAt_31 : decode cX2_removeAt 31 = .ok (.getfield 15, 3) := by decide +kernel
theorem dX2_removeAt_34 : decode cX2_removeAt 34 = .ok (.aload_n 0, 1) := by decide +kernel
theorem dX2_removeAt_35 : decode cX2_removeAt 35 = .ok (.getfield 25, 3) := by decide +kernel
theorem dX2_removeAt_38 : decode cX2_removeAt 38 = .ok (.laload, 1) := by decide +kernel
theorem dX2_removeAt_39 : decode cX2_removeAt 39 = .ok (.lastore, 1) := by decide +kernel
theorem dX2_removeAt_40 : decode cX2_removeAt 40 = .ok (.aload_n 0, 1) := by decide +kernel
theorem dX2_removeAt_41 : decode cX2_removeAt 41 = .ok (.getfield 21, 3) := by decide +kernel
theorem dX2_removeAt_44 : decode cX2_removeAt 44 = .ok (.iload_n 1, 1) := by decide +kernel
theorem dX2_removeAt_45 : decode cX2_removeAt 45 = .ok (.aload_n 0, 1) := by decide +kernel
theorem dX2_removeAt_46 : decode cX2_removeAt 46 = .ok (.getfield 21, 3) := by decide +kernel
theorem dX2_removeAt_49 : decode cX2_removeAt 49 = .ok (.aload_n 0, 1) := by decide +kernel
theorem dX2_removeAt_50 : decode cX2_removeAt 50 = .ok (.getfield 25, 3) := by decide +kernel
theorem dX2_removeAt_53 : decode cX2_removeAt 53 = .ok (.iaload, 1) := by decide +kernel
theorem dX2_removeAt_54 : decode cX2_removeAt 54 = .ok (.iastore, 1) := by decide +kernel
theorem dX2_removeAt_55 : decode cX2_removeAt 55 = .ok (.return_, 1) := by decide +kernel
theorem dX2_addCutOf_0 : decode cX2_addCutOf 0 = .ok (.lconst 0, 1) := by decide +kernel
theorem dX2_addCutOf_1 : decode cX2_addCutOf 1 = .ok (.lstore 4, 2) := by decide +kernel
theorem dX2_addCutOf_3 : decode cX2_addCutOf 3 = .ok (.iconst 0, 1) := by decide +kernel
theorem dX2_addCutOf_4 : decode cX2_addCutOf 4 = .ok (.istore 6, 2) := by decide +kernel
theorem dX2_addCutOf_6 : decode cX2_addCutOf 6 = .ok (.iconst 0, 1) := by decide +kernel
theorem dX2_addCutOf_7 : decode cX2_addCutOf 7 = .ok (.istore 7, 2) := by decide +kernel
theorem dX2_addCutOf_9 : decode cX2_addCutOf 9 = .ok (.iload 7, 2) := by decide +kernel
theorem dX2_addCutOf_11 : decode cX2_addCutOf 11 = .ok (.iload_n 3, 1) := by decide +kernel
theorem dX2_addCutOf_12 : decode cX2_addCutOf 12 = .ok (.if_icmp .ge 62, 3) := by decide +kernel
theorem dX2_addCutOf_15 : decode cX2_addCutOf 15 = .ok (.lload_n 1, 1) := by decide +kernel
theorem dX2_addCutOf_16 : decode cX2_addCutOf 16 = .ok (.iload_n 3, 1) := by decide +kernel
theorem dX2_addCutOf_17 : decode cX2_addCutOf 17 = .ok (.iload 7, 2) := by decide +kernel
theorem dX2_addCutOf_19 : decode cX2_addCutOf 19 = .ok (.invokestatic 40, 3) := by decide +kernel
theorem dX2_addCutOf_22 : decode cX2_addCutOf 22 = .ok (.istore 8, 2) := by decide +kernel
theorem dX2_addCutOf_24 : decode cX2_addCutOf 24 = .ok (.lload 4, 2) := by decide +kernel
theorem dX2_addCutOf_26 : decode cX2_addCutOf 26 = .ok (.bipush 8, 2) := by decide +kernel
theorem dX2_addCutOf_28 : decode cX2_addCutOf 28 = .ok (.lshl, 1) := by decide +kernel
theorem dX2_addCutOf_29 : decode cX2_addCutOf 29 = .ok (.iload 8, 2) := by decide +kernel
theorem dX2_addCutOf_31 : decode cX2_addCutOf 31 = .ok (.i2l, 1) := by decide +kernel
theorem dX2_addCutOf_32 : decode cX2_addCutOf 32 = .ok (.lor, 1) := by decide +kernel
theorem dX2_addCutOf_33 : decode cX2_addCutOf 33 = .ok (.lstore 4, 2) := by decide +kernel
theorem dX2_addCutOf_35 : decode cX2_addCutOf 35 = .ok (.iinc 6 1, 3) := by decide +kernel
theorem dX2_addCutOf_38 : decode cX2_addCutOf 38 = .ok (.iload 8, 2) := by decide +kernel
theorem dX2_addCutOf_40 : decode cX2_addCutOf 40 = .ok (.iconst 4, 1) := by decide +kernel
theorem dX2_addCutOf_41 : decode cX2_addCutOf 41 = .ok (.irem, 1) := by decide +kernel
theorem dX2_addCutOf_42 : decode cX2_addCutOf 42 = .ok (.iconst 3, 1) := by decide +kernel
theorem dX2_addCutOf_43 : decode cX2_addCutOf 43 = .ok (.if_icmp .eq 11, 3) := by decide +kernel
theorem dX2_addCutOf_46 : decode cX2_addCutOf 46 = .ok (.iload 7, 2) := by decide +kernel
theorem dX2_addCutOf_48 : decode cX2_addCutOf 48 = .ok (.iload_n 3, 1) := by decide +kernel
theorem dX2_addCutOf_49 : decode cX2_addCutOf 49 = .ok (.iconst 1, 1) := by decide +kernel
theorem dX2_addCutOf_50 : decode cX2_addCutOf 50 = .ok (.isub, 1) := by decide +kernel
theorem dX2_addCutOf_51 : decode cX2_addCutOf 51 = .ok (.if_icmp .ne 17, 3) := by decide +kernel
theorem dX2_addCutOf_54 : decode cX2_addCutOf 54 = .ok (.aload_n 0, 1) := by decide +kernel
theorem dX2_addCutOf_55 : decode cX2_addCutOf 55 = .ok (.lload 4, 2) := by decide +kernel
theorem dX2_addCutOf_57 : decode cX2_addCutOf 57 = .ok (.iload 6, 2) := by decide +kernel
theorem dX2_addCutOf_59 : decode cX2_addCutOf 59 = .ok (.invokevirtual 44, 3) := by decide +kernel
theorem dX2_addCutOf_62 : decode cX2_addCutOf 62 = .ok (.lconst 0, 1) := by decide +kernel
theorem dX2_addCutOf_63 : decode cX2_addCutOf 63 = .ok (.lstore 4, 2) := by decide +kernel
theorem dX2_addCutOf_65 : decode cX2_addCutOf 65 = .ok (.iconst 0, 1) := by decide +kernel
theorem dX2_addCutOf_66 : decode cX2_addCutOf 66 = .ok (.istore 6, 2) := by decide +kernel
theorem dX2_addCutOf_68 : decode cX2_addCutOf 68 = .ok (.iinc 7 1, 3) := by decide +kernel
theorem dX2_addCutOf_71 : decode cX2_addCutOf 71 = .ok (.goto (-62), 3) := by decide +kernel
theorem dX2_addCutOf_74 : decode cX2_addCutOf 74 = .ok (.return_, 1) := by decide +kernel
theorem dX2_addAll_0 : decode cX2_addAll 0 = .ok (.iconst 0, 1) := by decide +kernel
theorem dX2_addAll_1 : decode cX2_addAll 1 = .ok (.istore_n 2, 1) := by decide +kernel
theorem dX2_addAll_2 : decode cX2_addAll 2 = .ok (.iload_n 2, 1) := by decide +kernel
theorem dX2_addAll_3 : decode cX2_addAll 3 = .ok (.aload_n 1, 1) := by decide +kernel
theorem dX2_addAll_4 : decode cX2_addAll 4 = .ok (.getfield 25, 3) := by decide +kernel
theorem dX2_addAll_7 : decode cX2_addAll 7 = .ok (.if_icmp .ge 25, 3) := by decide +kernel
theorem dX2_addAll_10 : decode cX2_addAll 10 = .ok (.aload_n 0, 1) := by decide +kernel
theorem dX2_addAll_11 : decode cX2_addAll 11 = .ok (.aload_n 1, 1) := by decide +kernel
theorem dX2_addAll_12 : decode cX2_addAll 12 = .ok (.getfield 15, 3) := by decide +kernel
theorem dX2_addAll_15 : decode cX2_addAll 15 = .ok (.iload_n 2, 1) := by decide +kernel
theorem dX2_addAll_16 : decode cX2_addAll 16 = .ok (.laload, 1) := by decide +kernel
theorem dX2_addAll_17 : decode cX2_addAll 17 = .ok (.aload_n 1, 1) := by decide +kernel
theorem dX2_addAll_18 : decode cX2_addAll 18 = .ok (.getfield 21, 3) := by decide +kernel
theorem dX2_addAll_21 : decode cX2_addAll 21 = .ok (.iload_n 2, 1) := by decide +kernel
theorem dX2_addAll_22 : decode cX2_addAll 22 = .ok (.iaload, 1) := by decide +kernel
theorem dX2_addAll_23 : decode cX2_addAll 23 = .ok (.invokevirtual 44, 3) := by decide +kernel
theorem dX2_addAll_26 : decode cX2_addAll 26 = .ok (.iinc 2 1, 3) := by decide +kernel
theorem dX2_addAll_29 : decode cX2_addAll 29 = .ok (.goto (-27), 3) := by decide +kernel
theorem dX2_addAll_32 : decode cX2_addAll 32 = .ok (.return_, 1) := by decide +kernel
theorem dX2_removeAll_0 : decode cX2_removeAll 0 = .ok (.aload_n 0, 1) := by decide +kernel
theorem dX2_removeAll_1 : decode cX2_removeAll 1 = .ok (.getfield 25, 3) := by decide +kernel
theorem dX2_removeAll_4 : decode cX2_removeAll 4 = .ok (.iconst 1, 1) := by decide +kernel
theorem dX2_removeAll_5 : decode cX2_removeAll 5 = .ok (.isub, 1) := by decide +kernel
theorem dX2_removeAll_6 : decode cX2_removeAll 6 = .ok (.istore_n 2, 1) := by decide +kernel
theorem dX2_removeAll_7 : decode cX2_removeAll 7 = .ok (.iload_n 2, 1) := by decide +kernel
theorem dX2_removeAll_8 : decode cX2_removeAll 8 = .ok (.ifCond .lt 33, 3) := by decide +kernel
theorem dX2_removeAll_11 : decode cX2_removeAll 11 = .ok (.aload_n 1, 1) := by decide +kernel
theorem dX2_removeAll_12 : decode cX2_removeAll 12 = .ok (.aload_n 0, 1) := by decide +kernel
theorem dX2_removeAll_13 : decode cX2_removeAll 13 = .ok (.getfield 15, 3) := by decide +kernel
theorem dX2_removeAll_16 : decode cX2_removeAll 16 = .ok (.iload_n 2, 1) := by decide +kernel
theorem dX2_removeAll_17 : decode cX2_removeAll 17 = .ok (.laload, 1) := by decide +kernel
theorem dX2_removeAll_18 : decode cX2_removeAll 18 = .ok (.aload_n 0, 1) := by decide +kernel
theorem dX2_removeAll_19 : decode cX2_removeAll 19 = .ok (.getfield 21, 3) := by decide +kernel
theorem dX2_removeAll_22 : decode cX2_removeAll 22 = .ok (.iload_n 2, 1) := by decide +kernel
theorem dX2_removeAll_23 : decode cX2_removeAll 23 = .ok (.iaload, 1) := by decide +kernel
theorem dX2_removeAll_24 : decode cX2_removeAll 24 = .ok (.invokevirtual 36, 3) := by decide +kernel
theorem dX2_removeAll_27 : decode cX2_removeAll 27 = .ok (.ifCond .eq 8, 3) := by decide +kernel
theorem dX2_removeAll_30 : decode cX2_removeAll 30 = .ok (.aload_n 0, 1) := by decide +kernel
theorem dX2_removeAll_31 : decode cX2_removeAll 31 = .ok (.iload_n 2, 1) := by decide +kernel
theorem dX2_removeAll_32 : decode cX2_removeAll 32 = .ok (.invokevirtual 48, 3) := by decide +kernel
theorem dX2_removeAll_35 : decode cX2_removeAll 35 = .ok (.iinc 2 (-1), 3) := by decide +kernel
theorem dX2_removeAll_38 : decode cX2_removeAll 38 = .ok (.goto (-31), 3) := by decide +kernel
theorem dX2_removeAll_41 : decode cX2_removeAll 41 = .ok (.return_, 1) := by decide +kernel
theorem dX2_keepOnly_0 : decode cX2_keepOnly 0 = .ok (.aload_n 0, 1) := by decide +kernel
theorem dX2_keepOnly_1 : decode cX2_keepOnly 1 = .ok (.getfield 25, 3) := by decide +kernel
theorem dX2_keepOnly_4 : decode cX2_keepOnly 4 = .ok (.iconst 1, 1) := by decide +kernel
theorem dX2_keepOnly_5 : decode cX2_keepOnly 5 = .ok (.isub, 1) := by decide +kernel
theorem dX2_keepOnly_6 : decode cX2_keepOnly 6 = .ok (.istore_n 2, 1) := by decide +kernel
theorem dX2_keepOnly_7 : decode cX2_keepOnly 7 = .ok (.iload_n 2, 1) := by decide +kernel
theorem dX2_keepOnly_8 : decode cX2_keepOnly 8 = .ok (.ifCond .lt 33, 3) := by decide +kernel
theorem dX2_keepOnly_11 : decode cX2_keepOnly 11 = .ok (.aload_n 1, 1) := by decide +kernel
theorem dX2_keepOnly_12 : decode cX2_keepOnly 12 = .ok (.aload_n 0, 1) := by decide +kernel
theorem dX2_keepOnly_13 : decode cX2_keepOnly 13 = .ok (.getfield 15, 3) := by decide +kernel
theorem dX2_keepOnly_16 : decode cX2_keepOnly 16 = .ok (.iload_n 2, 1) := by decide +kernel
theorem dX2_keepOnly_17 : decode cX2_keepOnly 17 = .ok (.laload, 1) := by decide +kernel
theorem dX2_keepOnly_18 : decode cX2_keepOnly 18 = .ok (.aload_n 0, 1) := by decide +kernel
theorem dX2_keepOnly_19 : decode cX2_keepOnly 19 = .ok (.getfield 21, 3) := by decide +kernel
theorem dX2_keepOnly_22 : decode cX2_keepOnly 22 = .ok (.iload_n 2, 1) := by decide +kernel
theorem dX2_keepOnly_23 : decode cX2_keepOnly 23 = .ok (.iaload, 1) := by decide +kernel
theorem dX2_keepOnly_24 : decode cX2_keepOnly 24 = .ok (.invokevirtual 36, 3) := by decide +kernel
theorem dX2_keepOnly_27 : decode cX2_keepOnly 27 = .ok (.ifCond .ne 8, 3) := by decide +kernel
theorem dX2_keepOnly_30 : decode cX2_keepOnly 30 = .ok (.aload_n 0, 1) := by decide +kernel
theorem dX2_keepOnly_31 : decode cX2_keepOnly 31 = .ok (.iload_n 2, 1) := by decide +kernel
theorem dX2_keepOnly_32 : decode cX2_keepOnly 32 = .ok (.invokevirtual 48, 3) := by decide +kernel
theorem dX2_keepOnly_35 : decode cX2_keepOnly 35 = .ok (.iinc 2 (-1), 3) := by decide +kernel
theorem dX2_keepOnly_38 : decode cX2_keepOnly 38 = .ok (.goto (-31), 3) := by decide +kernel
theorem dX2_keepOnly_41 : decode cX2_keepOnly 41 = .ok (.return_, 1) := by decide +kernel
theorem dX2_bytesNotIn_0 : decode cX2_bytesNotIn 0 = .ok (.iconst 0, 1) := by decide +kernel
theorem dX2_bytesNotIn_1 : decode cX2_bytesNotIn 1 = .ok (.istore_n 2, 1) := by decide +kernel
theorem dX2_bytesNotIn_2 : decode cX2_bytesNotIn 2 = .ok (.iconst 0, 1) := by decide +kernel
theorem dX2_bytesNotIn_3 : decode cX2_bytesNotIn 3 = .ok (.istore_n 3, 1) := by decide +kernel
theorem dX2_bytesNotIn_4 : decode cX2_bytesNotIn 4 = .ok (.iload_n 3, 1) := by decide +kernel
theorem dX2_bytesNotIn_5 : decode cX2_bytesNotIn 5 = .ok (.aload_n 0, 1) := by decide +kernel
theorem dX2_bytesNotIn_6 : decode cX2_bytesNotIn 6 = .ok (.getfield 25, 3) := by decide +kernel
theorem dX2_bytesNotIn_9 : decode cX2_bytesNotIn 9 = .ok (.if_icmp .ge 37, 3) := by decide +kernel
theorem dX2_bytesNotIn_12 : decode cX2_bytesNotIn 12 = .ok (.aload_n 1, 1) := by decide +kernel
theorem dX2_bytesNotIn_13 : decode cX2_bytesNotIn 13 = .ok (.aload_n 0, 1) := by decide +kernel
theorem dX2_bytesNotIn_14 : decode cX2_bytesNotIn 14 = .ok (.getfield 15, 3) := by decide +kernel
theorem dX2_bytesNotIn_17 : decode cX2_bytesNotIn 17 = .ok (.iload_n 3, 1) := by decide +kernel
theorem dX2_bytesNotIn_18 : decode cX2_bytesNotIn 18 = .ok (.laload, 1) := by decide +kernel
theorem dX2_bytesNotIn_19 : decode cX2_bytesNotIn 19 = .ok (.aload_n 0, 1) := by decide +kernel
theorem dX2_bytesNotIn_20 : decode cX2_bytesNotIn 20 = .ok (.getfield 21, 3) := by decide +kernel
theorem dX2_bytesNotIn_23 : decode cX2_bytesNotIn 23 = .ok (.iload_n 3, 1) := by decide +kernel
theorem dX2_bytesNotIn_24 : decode cX2_bytesNotIn 24 = .ok (.iaload, 1) := by decide +kernel
theorem dX2_bytesNotIn_25 : decode cX2_bytesNotIn 25 = .ok (.invokevirtual 36, 3) := by decide +kernel
theorem dX2_bytesNotIn_28 : decode cX2_bytesNotIn 28 = .ok (.ifCond .ne 12, 3) := by decide +kernel
theorem dX2_bytesNotIn_31 : decode cX2_bytesNotIn 31 = .ok (.iload_n 2, 1) := by decide +kernel
theorem dX2_bytesNotIn_32 : decode cX2_bytesNotIn 32 = .ok (.aload_n 0, 1) := by decide +kernel
theorem dX2_bytesNotIn_33 : decode cX2_bytesNotIn 33 = .ok (.getfield 21, 3) := by decide +kernel
theorem dX2_bytesNotIn_36 : decode cX2_bytesNotIn 36 = .ok (.iload_n 3, 1) := by decide +kernel
theorem dX2_bytesNotIn_37 : decode cX2_bytesNotIn 37 = .ok (.iaload, 1) := by decide +kernel
theorem dX2_bytesNotIn_38 : decode cX2_bytesNotIn 38 = .ok (.iadd, 1) := by decide +kernel
theorem dX2_bytesNotIn_39 : decode cX2_bytesNotIn 39 = .ok (.istore_n 2, 1) := by decide +kernel
theorem dX2_bytesNotIn_40 : decode cX2_bytesNotIn 40 = .ok (.iinc 3 1, 3) := by decide +kernel
theorem dX2_bytesNotIn_43 : decode cX2_bytesNotIn 43 = .ok (.goto (-39), 3) := by decide +kernel
theorem dX2_bytesNotIn_46 : decode cX2_bytesNotIn 46 = .ok (.iload_n 2, 1) := by decide +kernel
theorem dX2_bytesNotIn_47 : decode cX2_bytesNotIn 47 = .ok (.ireturn, 1) := by decide +kernel
end
section
theorem dX3_init_0 : decode cX3_init 0 = .ok (.aload_n 0, 1) := by decide +kernel
theorem dX3_init_1 : decode cX3_init 1 = .ok (.invokespecial 3, 3) := by decide +kernel
theorem dX3_init_4 : decode cX3_init 4 = .ok (.aload_n 0, 1) := by decide +kernel
theorem dX3_init_5 : decode cX3_init 5 = .ok (.bipush 20, 2) := by decide +kernel
theorem dX3_init_7 : decode cX3_init 7 = .ok (.newarray .int, 2) := by decide +kernel
theorem dX3_init_9 : decode cX3_init 9 = .ok (.putfield 9, 3) := by decide +kernel
theorem dX3_init_12 : decode cX3_init 12 = .ok (.aload_n 0, 1) := by decide +kernel
theorem dX3_init_13 : decode cX3_init 13 = .ok (.bipush 20, 2) := by decide +kernel
theorem dX3_init_15 : decode cX3_init 15 = .ok (.newarray .int, 2) := by decide +kernel
theorem dX3_init_17 : decode cX3_init 17 = .ok (.putfield 15, 3) := by decide +kernel
theorem dX3_init_20 : decode cX3_init 20 = .ok (.aload_n 0, 1) := by decide +kernel
theorem dX3_init_21 : decode cX3_init 21 = .ok (.bipush 20, 2) := by decide +kernel
theorem dX3_init_23 : decode cX3_init 23 = .ok (.newarray .int, 2) := by decide +kernel
theorem dX3_init_25 : decode cX3_init 25 = .ok (.putfield 18, 3) := by decide +kernel
theorem dX3_init_28 : decode cX3_init 28 = .ok (.aload_n 0, 1) := by decide +kernel
theorem dX3_init_29 : decode cX3_init 29 = .ok (.bipush 20, 2) := by decide +kernel
theorem dX3_init_31 : decode cX3_init 31 = .ok (.newarray .int, 2) := by decide +kernel
theorem dX3_init_33 : decode cX3_init 33 = .ok (.putfield 21, 3) := by decide +kernel
theorem dX3_init_36 : decode cX3_init 36 = .ok (.return_, 1) := by decide +kernel
theorem dX3_begin_0 : decode cX3_begin 0 = .ok (.aload_n 0, 1) := by decide +kernel
theorem dX3_begin_1 : decode cX3_begin 1 = .ok (.getfield 9, 3) := by decide +kernel
theorem dX3_begin_4 : decode cX3_begin 4 = .ok (.aload_n 0, 1) := by decide +kernel
theorem dX3_begin_5 : decode cX3_begin 5 = .ok (.getfield 24, 3) := by decide +kernel
theorem dX3_begin_8 : decode cX3_begin 8 = .ok (.iload_n 1, 1) := by decide +kernel
theorem dX3_begin_9 : decode cX3_begin 9 = .ok (.iastore, 1) := by decide +kernel
theorem dX3_begin_10 : decode cX3_begin 10 = .ok (.aload_n 0, 1) := by decide +kernel
theorem dX3_begin_11 : decode cX3_begin 11 = .ok (.getfield 15, 3) := by decide +kernel
theorem dX3_begin_14 : decode cX3_begin 14 = .ok (.aload_n 0, 1) := by decide +kernel
theorem dX3_begin_15 : decode cX3_begin 15 = .ok (.getfield 24, 3) := by decide +kernel
theorem dX3_begin_18 : decode cX3_begin 18 = .ok (.iload_n 2, 1) := by decide +kernel
theorem dX3_begin_19 : decode cX3_begin 19 = .ok (.iastore, 1) := by decide +kernel
theorem dX3_begin_20 : decode cX3_begin 20 = .ok (.aload_n 0, 1) := by decide +kernel
theorem dX3_begin_21 : decode cX3_begin 21 = .ok (.getfield 18, 3) := by decide +kernel
theorem dX3_begin_24 : decode cX3_begin 24 = .ok (.aload_n 0, 1) := by decide +kernel
theorem dX3_begin_25 : decode cX3_begin 25 = .ok (.getfield 24, 3) := by decide +kernel
theorem dX3_begin_28 : decode cX3_begin 28 = .ok (.iload_n 3, 1) := by decide +kernel
theorem dX3_begin_29 : decode cX3_begin 29 = .ok (.iastore, 1) := by decide +kernel
theorem dX3_begin_30 : decode cX3_begin 30 = .ok (.aload_n 0, 1) := by decide +kernel
theorem dX3_begin_31 : decode cX3_begin 31 = .ok (.getfield 21, 3) := by decide +kernel
theorem dX3_begin_34 : decode cX3_begin 34 = .ok (.aload_n 0, 1) := by decide +kernel
theorem dX3_begin_35 : decode cX3_begin 35 = .ok (.getfield 24, 3) := by decide +kernel
theorem dX3_begin_38 : decode cX3_begin 38 = .ok (.bipush (-9), 2) := by decide +kernel
theorem dX3_begin_40 : decode cX3_begin 40 = .ok (.iastore, 1) := by decide +kernel
theorem dX3_begin_41 : decode cX3_begin 41 = .ok (.aload_n 0, 1) := by decide +kernel
theorem dX3_begin_42 : decode cX3_begin 42 = .ok (.dup, 1) := by decide +kernel
theorem dX3_begin_43 : decode cX3_begin 43 = .ok (.getfield 24, 3) := by decide +kernel
theorem dX3_begin_46 : decode cX3_begin 46 = .ok (.iconst 1, 1) := by decide +kernel
theorem dX3_begin_47 : decode cX3_begin 47 = .ok (.iadd, 1) := by decide +kernel
theorem dX3_begin_48 : decode cX3_begin 48 = .ok (.putfield 24, 3) := by decide +kernel
theorem dX3_begin_51 : decode cX3_begin 51 = .ok (.aload_n 0, 1) := by decide +kernel
theorem dX3_begin_52 : decode cX3_begin 52 = .ok (.getfield 24, 3) := by decide +kernel
theorem dX3_begin_55 : decode cX3_begin 55 = .ok (.iconst 1, 1) := by decide +kernel
theorem dX3_begin_56 : decode cX3_begin 56 = .ok (.isub, 1) := by decide +kernel
theorem dX3_begin_57 : decode cX3_begin 57 = .ok (.ireturn, 1) := by decide +kernel
theorem dX3_holds_0 : decode cX3_holds 0 = .ok (.aload_n 0, 1) := by decide +kernel
theorem dX3_holds_1 : decode cX3_holds 1 = .ok (.getfield 21, 3) := by decide +kernel
theorem dX3_holds_4 : decode cX3_holds 4 = .ok (.iload_n 1, 1) := by decide +kernel
theorem dX3_holds_5 : decode cX3_holds 5 = .ok (.iaload, 1) := by decide +kernel
theorem dX3_holds_6 : decode cX3_holds 6 = .ok (.bipush (-9), 2) := by decide +kernel
theorem dX3_holds_8 : decode cX3_holds 8 = .ok (.if_icmp .eq 17, 3) := by decide +kernel
theorem dX3_holds_11 : decode cX3_holds 11 = .ok (.aload_n 0, 1) := by decide +kernel
theorem dX3_holds_12 : decode cX3_holds 12 = .ok (.getfield 21, 3) := by decide +kernel
theorem dX3_holds_15 : decode cX3_holds 15 = .ok (.iload_n 1, 1) := by decide +kernel
theorem dX3_holds_16 : decode cX3_holds 16 = .ok (.iaload, 1) := by decide +kernel
theorem dX3_holds_17 : decode cX3_holds 17 = .ok (.iload_n 3, 1) := by decide +kernel
theorem dX3_holds_18 : decode cX3_holds 18 = .ok (.if_icmp .gt 7, 3) := by decide +kernel
theorem dX3_holds_21 : decode cX3_holds 21 = .ok (.iconst 1, 1) := by decide +kernel
theorem dX3_holds_22 : decode cX3_holds 22 = .ok (.goto 4, 3) := by decide +kernel
theorem dX3_holds_25 : decode cX3_holds 25 = .ok (.iconst 0, 1) := by decide +kernel
theorem dX3_holds_26 : decode cX3_holds 26 = .ok (.istore 4, 2) := by decide +kernel
theorem dX3_holds_28 : decode cX3_holds 28 = .ok (.aload_n 0, 1) := by decide +kernel
theorem dX3_holds_29 : decode cX3_holds 29 = .ok (.getfield 9, 3) := by decide +kernel
theorem dX3_holds_32 : decode cX3_holds 32 = .ok (.iload_n 1, 1) := by decide +kernel
theorem dX3_holds_33 : decode cX3_holds 33 = .ok (.iaload, 1) := by decide +kernel
theorem dX3_holds_34 : decode cX3_holds 34 = .ok (.iload_n 2, 1) := by decide +kernel
theorem dX3_holds_35 : decode cX3_holds 35 = .ok (.if_icmp .ne 22, 3) := by decide +kernel
theorem dX3_holds_38 : decode cX3_holds 38 = .ok (.aload_n 0, 1) := by decide +kernel
theorem dX3_holds_39 : decode cX3_holds 39 = .ok (.getfield 18, 3) := by decide +kernel
theorem dX3_holds_42 : decode cX3_holds 42 = .ok (.iload_n 1, 1) := by decide +kernel
theorem dX3_holds_43 : decode cX3_holds 43 = .ok (.iaload, 1) := by decide +kernel
theorem dX3_holds_44 : decode cX3_holds 44 = .ok (.iload_n 3, 1) := by decide +kernel
theorem dX3_holds_45 : decode cX3_holds 45 = .ok (.if_icmp .gt 12, 3) := by decide +kernel
theorem dX3_holds_48 : decode cX3_holds 48 = .ok (.iload 4, 2) := by decide +kernel
theorem dX3_holds_50 : decode cX3_holds 50 = .ok (.ifCond .ne 7, 3) := by decide +kernel
theorem dX3_holds_53 : decode cX3_holds 53 = .ok (.iconst 1, 1) := by decide +kernel
theorem dX3_holds_54 : decode cX3_holds 54 = .ok (.goto 4, 3) := by decide +kernel
theorem dX3_holds_57 : decode cX3_holds 57 = .ok (.iconst 0, 1) := by decide +kernel
theorem dX3_holds_58 : decode cX3_holds 58 = .ok (.ireturn, 1) := by decide +kernel
theorem dX3_holding_0 : decode cX3_holding 0 = .ok (.iconst 0, 1) := by decide +kernel
theorem dX3_holding_1 : decode cX3_holding 1 = .ok (.istore_n 1, 1) := by decide +kernel
theorem dX3_holding_2 : decode cX3_holding 2 = .ok (.iconst 0, 1) := by decide +kernel
theorem dX3_holding_3 : decode cX3_holding 3 = .ok (.istore_n 2, 1) := by decide +kernel
theorem dX3_holding_4 : decode cX3_holding 4 = .ok (.iload_n 2, 1) := by decide +kernel
theorem dX3_holding_5 : decode cX3_holding 5 = .ok (.aload_n 0, 1) := by decide +kernel
theorem dX3_holding_6 : decode cX3_holding 6 = .ok (.getfield 24, 3) := by decide +kernel
theorem dX3_holding_9 : decode cX3_holding 9 = .ok (.if_icmp .ge 23, 3) := by decide +kernel
theorem dX3_holding_12 : decode cX3_holding 12 = .ok (.aload_n 0, 1) := by decide +kernel
theorem dX3_holding_13 : decode cX3_holding 13 = .ok (.getfield 21, 3) := by decide +kernel
theorem dX3_holding_16 : decode cX3_holding 16 = .ok (.iload_n 2, 1) := by decide +kernel
theorem dX3_holding_17 : decode cX3_holding 17 = .ok (.iaload, 1) := by decide +kernel
theorem dX3_holding_18 : decode cX3_holding 18 = .ok (.bipush (-9), 2) := by decide +kernel
theorem dX3_holding_20 : decode cX3_holding 20 = .ok (.if_icmp .ne 6, 3) := by decide +kernel
theorem dX3_holding_23 : decode cX3_holding 23 = .ok (.iinc 1 1, 3) := by decide +kernel
theorem dX3_holding_26 : decode cX3_holding 26 = .ok (.iinc 2 1, 3) := by decide +kernel
theorem dX3_holding_29 : decode cX3_holding 29 = .ok (.goto (-25), 3) := by decide +kernel
theorem dX3_holding_32 : decode cX3_holding 32 = .ok (.iload_n 1, 1) := by decide +kernel
theorem dX3_holding_33 : decode cX3_holding 33 = .ok (.ireturn, 1) := by decide +kernel
end
section
theorem dX4_init_0 : decode cX4_init 0 = .ok (.aload_n 0, 1) := by decide +kernel
theorem dX4_init_1 : decode cX4_init 1 = .ok (.invokespecial 3, 3) := by decide +kernel
theorem dX4_init_4 : decode cX4_init 4 = .ok (.aload_n 0, 1) := by decide +kernel
theorem dX4_init_5 : decode cX4_init 5 = .ok (.bipush 12, 2) := by decide +kernel
theorem dX4_init_7 : decode cX4_init 7 = .ok (.newarray .boolean, 2) := by decide +kernel
theorem dX4_init_9 : decode cX4_init 9 = .ok (.putfield 9, 3) := by decide +kernel
theorem dX4_init_12 : decode cX4_init 12 = .ok (.aload_n 0, 1) := by decide +kernel
theorem dX4_init_13 : decode cX4_init 13 = .ok (.bipush 12, 2) := by decide +kernel
theorem dX4_init_15 : decode cX4_init 15 = .ok (.newarray .boolean, 2) := by decide +kernel
theorem dX4_init_17 : decode cX4_init 17 = .ok (.putfield 15, 3) := by decide +kernel
theorem dX4_init_20 : decode cX4_init 20 = .ok (.aload_n 0, 1) := by decide +kernel
theorem dX4_init_21 : decode cX4_init 21 = .ok (.bipush 12, 2) := by decide +kernel
theorem dX4_init_23 : decode cX4_init 23 = .ok (.newarray .int, 2) := by decide +kernel
theorem dX4_init_25 : decode cX4_init 25 = .ok (.putfield 18, 3) := by decide +kernel
theorem dX4_init_28 : decode cX4_init 28 = .ok (.aload_n 0, 1) := by decide +kernel
theorem dX4_init_29 : decode cX4_init 29 = .ok (.bipush 12, 2) := by decide +kernel
theorem dX4_init_31 : decode cX4_init 31 = .ok (.newarray .int, 2) := by decide +kernel
theorem dX4_init_33 : decode cX4_init 33 = .ok (.putfield 22, 3) := by decide +kernel
theorem dX4_init_36 : decode cX4_init 36 = .ok (.aload_n 0, 1) := by decide +kernel
theorem dX4_init_37 : decode cX4_init 37 = .ok (.bipush 12, 2) := by decide +kernel
theorem dX4_init_39 : decode cX4_init 39 = .ok (.newarray .int, 2) := by decide +kernel
theorem dX4_init_41 : decode cX4_init 41 = .ok (.putfield 25, 3) := by decide +kernel
theorem dX4_init_44 : decode cX4_init 44 = .ok (.aload_n 0, 1) := by decide +kernel
theorem dX4_init_45 : decode cX4_init 45 = .ok (.bipush 12, 2) := by decide +kernel
theorem dX4_init_47 : decode cX4_init 47 = .ok (.newarray .int, 2) := by decide +kernel
theorem dX4_init_49 : decode cX4_init 49 = .ok (.putfield 28, 3) := by decide +kernel
theorem dX4_init_52 : decode cX4_init 52 = .ok (.aload_n 0, 1) := by decide +kernel
theorem dX4_init_53 : decode cX4_init 53 = .ok (.bipush 12, 2) := by decide +kernel
theorem dX4_init_55 : decode cX4_init 55 = .ok (.newarray .int, 2) := by decide +kernel
theorem dX4_init_57 : decode cX4_init 57 = .ok (.putfield 31, 3) := by decide +kernel
theorem dX4_init_60 : decode cX4_init 60 = .ok (.aload_n 0, 1) := by decide +kernel
theorem dX4_init_61 : decode cX4_init 61 = .ok (.bipush 12, 2) := by decide +kernel
theorem dX4_init_63 : decode cX4_init 63 = .ok (.newarray .int, 2) := by decide +kernel
theorem dX4_init_65 : decode cX4_init 65 = .ok (.putfield 34, 3) := by decide +kernel
theorem dX4_init_68 : decode cX4_init 68 = .ok (.aload_n 0, 1) := by decide +kernel
theorem dX4_init_69 : decode cX4_init 69 = .ok (.bipush 48, 2) := by decide +kernel
theorem dX4_init_71 : decode cX4_init 71 = .ok (.newarray .int, 2) := by decide +kernel
theorem dX4_init_73 : decode cX4_init 73 = .ok (.putfield 37, 3) := by decide +kernel
theorem dX4_init_76 : decode cX4_init 76 = .ok (.aload_n 0, 1) := by decide +kernel
theorem dX4_init_77 : decode cX4_init 77 = .ok (.aload_n 1, 1) := by decide +kernel
theorem dX4_init_78 : decode cX4_init 78 = .ok (.putfield 40, 3) := by decide +kernel
theorem dX4_init_81 : decode cX4_init 81 = .ok (.return_, 1) := by decide +kernel
theorem dX4_grow_0 : decode cX4_grow 0 = .ok (.aload_n 0, 1) := by decide +kernel
theorem dX4_grow_1 : decode cX4_grow 1 = .ok (.invokevirtual 44, 3) := by decide +kernel
theorem dX4_grow_4 : decode cX4_grow 4 = .ok (.iconst 0, 1) := by decide +kernel
theorem dX4_grow_5 : decode cX4_grow 5 = .ok (.istore 4, 2) := by decide +kernel
theorem dX4_grow_7 : decode cX4_grow 7 = .ok (.iload 4, 2) := by decide +kernel
theorem dX4_grow_9 : decode cX4_grow 9 = .ok (.aload_n 0, 1) := by decide +kernel
theorem dX4_grow_10 : decode cX4_grow 10 = .ok (.getfield 40, 3) := by decide +kernel
theorem dX4_grow_13 : decode cX4_grow 13 = .ok (.getfield 47, 3) := by decide +kernel
theorem dX4_grow_16 : decode cX4_grow 16 = .ok (.if_icmp .ge 55, 3) := by decide +kernel
theorem dX4_grow_19 : decode cX4_grow 19 = .ok (.aload_n 0, 1) := by decide +kernel
theorem dX4_grow_20 : decode cX4_grow 20 = .ok (.getfield 40, 3) := by decide +kernel
theorem dX4_grow_23 : decode cX4_grow 23 = .ok (.iload 4, 2) := by decide +kernel
theorem dX4_grow_25 : decode cX4_grow 25 = .ok (.invokevirtual 53, 3) := by decide +kernel
theorem dX4_grow_28 : decode cX4_grow 28 = .ok (.astore 5, 2) := by decide +kernel
theorem dX4_grow_30 : decode cX4_grow 30 = .ok (.aload_n 0, 1) := by decide +kernel
theorem dX4_grow_31 : decode cX4_grow 31 = .ok (.getfield 40, 3) := by decide +kernel
theorem dX4_grow_34 : decode cX4_grow 34 = .ok (.iload_n 2, 1) := by decide +kernel
theorem dX4_grow_35 : decode cX4_grow 35 = .ok (.iload_n 1, 1) := by decide +kernel
theorem dX4_grow_36 : decode cX4_grow 36 = .ok (.aload 5, 2) := by decide +kernel
theorem dX4_grow_38 : decode cX4_grow 38 = .ok (.invokevirtual 57, 3) := by decide +kernel
theorem dX4_grow_41 : decode cX4_grow 41 = .ok (.ifCond .eq 24, 3) := by decide +kernel
theorem dX4_grow_44 : decode cX4_grow 44 = .ok (.aload_n 0, 1) := by decide +kernel
theorem dX4_grow_45 : decode cX4_grow 45 = .ok (.getfield 40, 3) := by decide +kernel
theorem dX4_grow_48 : decode cX4_grow 48 = .ok (.aload 5, 2) := by decide +kernel
theorem dX4_grow_50 : decode cX4_grow 50 = .ok (.invokevirtual 61, 3) := by decide +kernel
theorem dX4_grow_53 : decode cX4_grow 53 = .ok (.ifCond .ne 12, 3) := by decide +kernel
theorem dX4_grow_56 : decode cX4_grow 56 = .ok (.aload_n 0, 1) := by decide +kernel
theorem dX4_grow_57 : decode cX4_grow 57 = .ok (.aload 5, 2) := by decide +kernel
theorem dX4_grow_59 : decode cX4_grow 59 = .ok (.iload 4, 2) := by decide +kernel
theorem dX4_grow_61 : decode cX4_grow 61 = .ok (.iload_n 3, 1) := by decide +kernel
theorem dX4_grow_62 : decode cX4_grow 62 = .ok (.invokevirtual 65, 3) := by decide +kernel
theorem dX4_grow_65 : decode cX4_grow 65 = .ok (.iinc 4 1, 3) := by decide +kernel
theorem dX4_grow_68 : decode cX4_grow 68 = .ok (.goto (-61), 3) := by decide +kernel
theorem dX4_grow_71 : decode cX4_grow 71 = .ok (.aload_n 0, 1) := by decide +kernel
theorem dX4_grow_72 : decode cX4_grow 72 = .ok (.iload_n 3, 1) := by decide +kernel
theorem dX4_grow_73 : decode cX4_grow 73 = .ok (.invokevirtual 69, 3) := by decide +kernel
theorem dX4_grow_76 : decode cX4_grow 76 = .ok (.return_, 1) := by decide +kernel
theorem dX4_clear_0 : decode cX4_clear 0 = .ok (.iconst 0, 1) := by decide +kernel
theorem dX4_clear_1 : decode cX4_clear 1 = .ok (.istore_n 1, 1) := by decide +kernel
theorem dX4_clear_2 : decode cX4_clear 2 = .ok (.iload_n 1, 1) := by decide +kernel
theorem dX4_clear_3 : decode cX4_clear 3 = .ok (.bipush 12, 2) := by decide +kernel
theorem dX4_clear_5 : decode cX4_clear 5 = .ok (.if_icmp .ge 65, 3) := by decide +kernel
theorem dX4_clear_8 : decode cX4_clear 8 = .ok (.aload_n 0, 1) := by decide +kernel
theorem dX4_clear_9 : decode cX4_clear 9 = .ok (.getfield 9, 3) := by decide +kernel
theorem dX4_clear_12 : decode cX4_clear 12 = .ok (.iload_n 1, 1) := by decide +kernel
theorem dX4_clear_13 : decode cX4_clear 13 = .ok (.iconst 0, 1) := by decide +kernel
theorem dX4_clear_14 : decode cX4_clear 14 = .ok (.bastore, 1) := by decide +kernel
theorem dX4_clear_15 : decode cX4_clear 15 = .ok (.aload_n 0, 1) := by decide +kernel
theorem dX4_clear_16 : decode cX4_clear 16 = .ok (.getfield 15, 3) := by decide +kernel
theorem dX4_clear_19 : decode cX4_clear 19 = .ok (.iload_n 1, 1) := by decide +kernel
theorem dX4_clear_20 : decode cX4_clear 20 = .ok (.iconst 0, 1) := by decide +kernel
theorem dX4_clear_21 : decode cX4_clear 21 = .ok (.bastore, 1) := by decide +kernel
theorem dX4_clear_22 : decode cX4_clear 22 = .ok (.aload_n 0, 1) := by decide +kernel
theorem dX4_clear_23 : decode cX4_clear 23 = .ok (.getfield 18, 3) := by decide +kernel
theorem dX4_clear_26 : decode cX4_clear 26 = .ok (.iload_n 1, 1) := by decide +kernel
theorem dX4_clear_27 : decode cX4_clear 27 = .ok (.iconst 1, 1) := by decide +kernel
theorem dX4_clear_28 : decode cX4_clear 28 = .ok (.iastore, 1) := by decide +kernel
theorem dX4_clear_29 : decode cX4_clear 29 = .ok (.aload_n 0, 1) := by decide +kernel
theorem dX4_clear_30 : decode cX4_clear 30 = .ok (.getfield 22, 3) := by decide +kernel
theorem dX4_clear_33 : decode cX4_clear 33 = .ok (.iload_n 1, 1) := by decide +kernel
theorem dX4_clear_34 : decode cX4_clear 34 = .ok (.iconst 0, 1) := by decide +kernel
theorem dX4_clear_35 : decode cX4_clear 35 = .ok (.iastore, 1) := by decide +kernel
theorem dX4_clear_36 : decode cX4_clear 36 = .ok (.aload_n 0, 1) := by decide +kernel
theorem dX4_clear_37 : decode cX4_clear 37 = .ok (.getfield 25, 3) := by decide +kernel
theorem dX4_clear_40 : decode cX4_clear 40 = .ok (.iload_n 1, 1) := by decide +kernel
theorem dX4_clear_41 : decode cX4_clear 41 = .ok (.iconst 0, 1) := by decide +kernel
theorem dX4_clear_42 : decode cX4_clear 42 = .ok (.iastore, 1) := by decide +kernel
theorem dX4_clear_43 : decode cX4_clear 43 = .ok (.aload_n 0, 1) := by decide +kernel
theorem dX4_clear_44 : decode cX4_clear 44 = .ok (.getfield 28, 3) := by decide +kernel
theorem dX4_clear_47 : decode cX4_clear 47 = .ok (.iload_n 1, 1) := by decide +kernel
theorem dX4_clear_48 : decode cX4_clear 48 = .ok (.iconst (-1), 1) := by decide +kernel
theorem dX4_clear_49 : decode cX4_clear 49 = .ok (.iastore, 1) := by decide +kernel
theorem dX4_clear_50 : decode cX4_clear 50 = .ok (.aload_n 0, 1) := by decide +kernel
theorem dX4_clear_51 : decode cX4_clear 51 = .ok (.getfield 31, 3) := by decide +kernel
theorem dX4_clear_54 : decode cX4_clear 54 = .ok (.iload_n 1, 1) := by decide +kernel
theorem dX4_clear_55 : decode cX4_clear 55 = .ok (.iconst 0, 1) := by decide +kernel
theorem dX4_clear_56 : decode cX4_clear 56 = .ok (.iastore, 1) := by decide +kernel
theorem dX4_clear_57 : decode cX4_clear 57 = .ok (.aload_n 0, 1) := by decide +kernel
theorem dX4_clear_58 : decode cX4_clear 58 = .ok (.getfield 34, 3) := by decide +kernel
theorem dX4_clear_61 : decode cX4_clear 61 = .ok (.iload_n 1, 1) := by decide +kernel
theorem dX4_clear_62 : decode cX4_clear 62 = .ok (.iconst 0, 1) := by decide +kernel
theorem dX4_clear_63 : decode cX4_clear 63 = .ok (.iastore, 1) := by decide +kernel
theorem dX4_clear_64 : decode cX4_clear 64 = .ok (.iinc 1 1, 3) := by decide +kernel
theorem dX4_clear_67 : decode cX4_clear 67 = .ok (.goto (-65), 3) := by decide +kernel
theorem dX4_clear_70 : decode cX4_clear 70 = .ok (.aload_n 0, 1) := by decide +kernel
theorem dX4_clear_71 : decode cX4_clear 71 = .ok (.getfield 9, 3) := by decide +kernel
theorem dX4_clear_74 : decode cX4_clear 74 = .ok (.iconst 0, 1) := by decide +kernel
theorem dX4_clear_75 : decode cX4_clear 75 = .ok (.iconst 1, 1) := by decide +kernel
theorem dX4_clear_76 : decode cX4_clear 76 = .ok (.bastore, 1) := by decide +kernel
theorem dX4_clear_77 : decode cX4_clear 77 = .ok (.aload_n 0, 1) := by decide +kernel
theorem dX4_clear_78 : decode cX4_clear 78 = .ok (.getfield 15, 3) := by decide +kernel
theorem dX4_clear_81 : decode cX4_clear 81 = .ok (.iconst 0, 1) := by decide +kernel
theorem dX4_clear_82 : decode cX4_clear 82 = .ok (.iconst 1, 1) := by decide +kernel
theorem dX4_clear_83 : decode cX4_clear 83 = .ok (.bastore, 1) := by decide +kernel
theorem dX4_clear_84 : decode cX4_clear 84 = .ok (.aload_n 0, 1) := by decide +kernel
theorem dX4_clear_85 : decode cX4_clear 85 = .ok (.getfield 18, 3) := by decide +kernel
theorem dX4_clear_88 : decode cX4_clear 88 = .ok (.iconst 0, 1) := by decide +kernel
theorem dX4_clear_89 : decode cX4_clear 89 = .ok (.iconst 2, 1) := by decide +kernel
theorem dX4_clear_90 : decode cX4_clear 90 = .ok (.iastore, 1) := by decide +kernel
theorem dX4_clear_91 : decode cX4_clear 91 = .ok (.aload_n 0, 1) := by decide +kernel
theorem dX4_clear_92 : decode cX4_clear 92 = .ok (.getfield 28, 3) := by decide +kernel
theorem dX4_clear_95 : decode cX4_clear 95 = .ok (.iconst 0, 1) := by decide +kernel
theorem dX4_clear_96 : decode cX4_clear 96 = .ok (.iconst 0, 1) := by decide +kernel
theorem dX4_clear_97 : decode cX4_clear 97 = .ok (.iastore, 1) := by decide +kernel
theorem dX4_clear_98 : decode cX4_clear 98 = .ok (.return_, 1) := by decide +kernel
theorem dX4_apply_0 : decode cX4_apply 0 = .ok (.aload_n 1, 1) := by decide +kernel
theorem dX4_apply_1 : decode cX4_apply 1 = .ok (.getfield 73, 3) := by decide +kernel
theorem dX4_apply_4 : decode cX4_apply 4 = .ok (.tableswitch 76 0 2 #[28, 37, 65], 28) := by decide +kernel
theorem dX4_apply_32 : decode cX4_apply 32 = .ok (.aload_n 0, 1) := by decide +kernel
theorem dX4_apply_33 : decode cX4_apply 33 = .ok (.aload_n 1, 1) := by decide +kernel
theorem dX4_apply_34 : decode cX4_apply 34 = .ok (.iload_n 2, 1) := by decide +kernel
theorem dX4_apply_35 : decode cX4_apply 35 = .ok (.invokevirtual 78, 3) := by decide +kernel
theorem dX4_apply_38 : decode cX4_apply 38 = .ok (.goto 48, 3) := by decide +kernel
theorem dX4_apply_41 : decode cX4_apply 41 = .ok (.aload_n 0, 1) := by decide +kernel
theorem dX4_apply_42 : decode cX4_apply 42 = .ok (.aload_n 1, 1) := by decide +kernel
theorem dX4_apply_43 : decode cX4_apply 43 = .ok (.getfield 82, 3) := by decide +kernel
theorem dX4_apply_46 : decode cX4_apply 46 = .ok (.aload_n 1, 1) := by decide +kernel
theorem dX4_apply_47 : decode cX4_apply 47 = .ok (.getfield 85, 3) := by decide +kernel
theorem dX4_apply_50 : decode cX4_apply 50 = .ok (.invokevirtual 87, 3) := by decide +kernel
theorem dX4_apply_53 : decode cX4_apply 53 = .ok (.ifCond .eq 33, 3) := by decide +kernel
theorem dX4_apply_56 : decode cX4_apply 56 = .ok (.aload_n 0, 1) := by decide +kernel
theorem dX4_apply_57 : decode cX4_apply 57 = .ok (.aload_n 1, 1) := by decide +kernel
theorem dX4_apply_58 : decode cX4_apply 58 = .ok (.aload_n 1, 1) := by decide +kernel
theorem dX4_apply_59 : decode cX4_apply 59 = .ok (.getfield 85, 3) := by decide +kernel
theorem dX4_apply_62 : decode cX4_apply 62 = .ok (.iload_n 2, 1) := by decide +kernel
theorem dX4_apply_63 : decode cX4_apply 63 = .ok (.invokevirtual 91, 3) := by decide +kernel
theorem dX4_apply_66 : decode cX4_apply 66 = .ok (.goto 20, 3) := by decide +kernel
theorem dX4_apply_69 : decode cX4_apply 69 = .ok (.aload_n 0, 1) := by decide +kernel
theorem dX4_apply_70 : decode cX4_apply 70 = .ok (.aload_n 1, 1) := by decide +kernel
theorem dX4_apply_71 : decode cX4_apply 71 = .ok (.getfield 82, 3) := by decide +kernel
theorem dX4_apply_74 : decode cX4_apply 74 = .ok (.invokevirtual 94, 3) := by decide +kernel
theorem dX4_apply_77 : decode cX4_apply 77 = .ok (.goto 9, 3) := by decide +kernel
theorem dX4_apply_80 : decode cX4_apply 80 = .ok (.aload_n 0, 1) := by decide +kernel
theorem dX4_apply_81 : decode cX4_apply 81 = .ok (.aload_n 1, 1) := by decide +kernel
theorem dX4_apply_82 : decode cX4_apply 82 = .ok (.iload_n 3, 1) := by decide +kernel
theorem dX4_apply_83 : decode cX4_apply 83 = .ok (.invokevirtual 97, 3) := by decide +kernel
theorem dX4_apply_86 : decode cX4_apply 86 = .ok (.return_, 1) := by decide +kernel
theorem dX4_applyNew_0 : decode cX4_applyNew 0 = .ok (.aload_n 1, 1) := by decide +kernel
theorem dX4_applyNew_1 : decode cX4_applyNew 1 = .ok (.getfield 82, 3) := by decide +kernel
theorem dX4_applyNew_4 : decode cX4_applyNew 4 = .ok (.istore_n 3, 1) := by decide +kernel
theorem dX4_applyNew_5 : decode cX4_applyNew 5 = .ok (.aload_n 0, 1) := by decide +kernel
theorem dX4_applyNew_6 : decode cX4_applyNew 6 = .ok (.getfield 9, 3) := by decide +kernel
theorem dX4_applyNew_9 : decode cX4_applyNew 9 = .ok (.iload_n 3, 1) := by decide +kernel
theorem dX4_applyNew_10 : decode cX4_applyNew 10 = .ok (.baload, 1) := by decide +kernel
theorem dX4_applyNew_11 : decode cX4_applyNew 11 = .ok (.ifCond .eq 4, 3) := by decide +kernel
theorem dX4_applyNew_14 : decode cX4_applyNew 14 = .ok (.return_, 1) := by decide +kernel
theorem dX4_applyNew_15 : decode cX4_applyNew 15 = .ok (.aload_n 0, 1) := by decide +kernel
theorem dX4_applyNew_16 : decode cX4_applyNew 16 = .ok (.aload_n 1, 1) := by decide +kernel
theorem dX4_applyNew_17 : decode cX4_applyNew 17 = .ok (.aload_n 0, 1) := by decide +kernel
theorem dX4_applyNew_18 : decode cX4_applyNew 18 = .ok (.aload_n 1, 1) := by decide +kernel
theorem dX4_applyNew_19 : decode cX4_applyNew 19 = .ok (.getfield 85, 3) := by decide +kernel
theorem dX4_applyNew_22 : decode cX4_applyNew 22 = .ok (.invokevirtual 100, 3) := by decide +kernel
theorem dX4_applyNew_25 : decode cX4_applyNew 25 = .ok (.ifCond .eq 10, 3) := by decide +kernel
theorem dX4_applyNew_28 : decode cX4_applyNew 28 = .ok (.aload_n 1, 1) := by decide +kernel
theorem dX4_applyNew_29 : decode cX4_applyNew 29 = .ok (.getfield 85, 3) := by decide +kernel
theorem dX4_applyNew_32 : decode cX4_applyNew 32 = .ok (.goto 4, 3) := by decide +kernel
theorem dX4_applyNew_35 : decode cX4_applyNew 35 = .ok (.iconst 0, 1) := by decide +kernel
theorem dX4_applyNew_36 : decode cX4_applyNew 36 = .ok (.iload_n 2, 1) := by decide +kernel
theorem dX4_applyNew_37 : decode cX4_applyNew 37 = .ok (.invokevirtual 91, 3) := by decide +kernel
theorem dX4_applyNew_40 : decode cX4_applyNew 40 = .ok (.aload_n 0, 1) := by decide +kernel
theorem dX4_applyNew_41 : decode cX4_applyNew 41 = .ok (.getfield 9, 3) := by decide +kernel
theorem dX4_applyNew_44 : decode cX4_applyNew 44 = .ok (.iload_n 3, 1) := by decide +kernel
theorem dX4_applyNew_45 : decode cX4_applyNew 45 = .ok (.iconst 1, 1) := by decide +kernel
theorem dX4_applyNew_46 : decode cX4_applyNew 46 = .ok (.bastore, 1) := by decide +kernel
theorem dX4_applyNew_47 : decode cX4_applyNew 47 = .ok (.aload_n 0, 1) := by decide +kernel
theorem dX4_applyNew_48 : decode cX4_applyNew 48 = .ok (.getfield 15, 3) := by decide +kernel
theorem dX4_applyNew_51 : decode cX4_applyNew 51 = .ok (.iload_n 3, 1) := by decide +kernel
theorem dX4_applyNew_52 : decode cX4_applyNew 52 = .ok (.iconst 1, 1) := by decide +kernel
theorem dX4_applyNew_53 : decode cX4_applyNew 53 = .ok (.bastore, 1) := by decide +kernel
theorem dX4_applyNew_54 : decode cX4_applyNew 54 = .ok (.aload_n 0, 1) := by decide +kernel
theorem dX4_applyNew_55 : decode cX4_applyNew 55 = .ok (.getfield 18, 3) := by decide +kernel
theorem dX4_applyNew_58 : decode cX4_applyNew 58 = .ok (.iload_n 3, 1) := by decide +kernel
theorem dX4_applyNew_59 : decode cX4_applyNew 59 = .ok (.aload_n 1, 1) := by decide +kernel
theorem dX4_applyNew_60 : decode cX4_applyNew 60 = .ok (.getfield 104, 3) := by decide +kernel
theorem dX4_applyNew_63 : decode cX4_applyNew 63 = .ok (.iastore, 1) := by decide +kernel
theorem dX4_applyNew_64 : decode cX4_applyNew 64 = .ok (.return_, 1) := by decide +kernel
theorem dX4_put_0 : decode cX4_put 0 = .ok (.aload_n 0, 1) := by decide +kernel
theorem dX4_put_1 : decode cX4_put 1 = .ok (.getfield 22, 3) := by decide +kernel
theorem dX4_put_4 : decode cX4_put 4 = .ok (.aload_n 1, 1) := by decide +kernel
theorem dX4_put_5 : decode cX4_put 5 = .ok (.getfield 82, 3) := by decide +kernel
theorem dX4_put_8 : decode cX4_put 8 = .ok (.iload_n 2, 1) := by decide +kernel
theorem dX4_put_9 : decode cX4_put 9 = .ok (.iastore, 1) := by decide +kernel
theorem dX4_put_10 : decode cX4_put 10 = .ok (.aload_n 0, 1) := by decide +kernel
theorem dX4_put_11 : decode cX4_put 11 = .ok (.getfield 25, 3) := by decide +kernel
theorem dX4_put_14 : decode cX4_put 14 = .ok (.aload_n 1, 1) := by decide +kernel
theorem dX4_put_15 : decode cX4_put 15 = .ok (.getfield 82, 3) := by decide +kernel
theorem dX4_put_18 : decode cX4_put 18 = .ok (.aload_n 1, 1) := by decide +kernel
theorem dX4_put_19 : decode cX4_put 19 = .ok (.getfield 106, 3) := by decide +kernel
theorem dX4_put_22 : decode cX4_put 22 = .ok (.iastore, 1) := by decide +kernel
theorem dX4_put_23 : decode cX4_put 23 = .ok (.aload_n 0, 1) := by decide +kernel
theorem dX4_put_24 : decode cX4_put 24 = .ok (.getfield 31, 3) := by decide +kernel
theorem dX4_put_27 : decode cX4_put 27 = .ok (.aload_n 1, 1) := by decide +kernel
theorem dX4_put_28 : decode cX4_put 28 = .ok (.getfield 82, 3) := by decide +kernel
theorem dX4_put_31 : decode cX4_put 31 = .ok (.iload_n 3, 1) := by decide +kernel
theorem dX4_put_32 : decode cX4_put 32 = .ok (.iastore, 1) := by decide +kernel
theorem dX4_put_33 : decode cX4_put 33 = .ok (.return_, 1) := by decide +kernel
theorem dX4_applyGone_0 : decode cX4_applyGone 0 = .ok (.iload_n 1, 1) := by decide +kernel
theorem dX4_applyGone_1 : decode cX4_applyGone 1 = .ok (.ifCond .eq 12, 3) := by decide +kernel
theorem dX4_applyGone_4 : decode cX4_applyGone 4 = .ok (.aload_n 0, 1) := by decide +kernel
theorem dX4_applyGone_5 : decode cX4_applyGone 5 = .ok (.getfield 15, 3) := by decide +kernel
theorem dX4_applyGone_8 : decode cX4_applyGone 8 = .ok (.iload_n 1, 1) := by decide +kernel
theorem dX4_applyGone_9 : decode cX4_applyGone 9 = .ok (.baload, 1) := by decide +kernel
theorem dX4_applyGone_10 : decode cX4_applyGone 10 = .ok (.ifCond .ne 4, 3) := by decide +kernel
theorem dX4_applyGone_13 : decode cX4_applyGone 13 = .ok (.return_, 1) := by decide +kernel
theorem dX4_applyGone_14 : decode cX4_applyGone 14 = .ok (.iconst 1, 1) := by decide +kernel
theorem dX4_applyGone_15 : decode cX4_applyGone 15 = .ok (.istore_n 2, 1) := by decide +kernel
theorem dX4_applyGone_16 : decode cX4_applyGone 16 = .ok (.iload_n 2, 1) := by decide +kernel
theorem dX4_applyGone_17 : decode cX4_applyGone 17 = .ok (.bipush 12, 2) := by decide +kernel
theorem dX4_applyGone_19 : decode cX4_applyGone 19 = .ok (.if_icmp .ge 34, 3) := by decide +kernel
theorem dX4_applyGone_22 : decode cX4_applyGone 22 = .ok (.aload_n 0, 1) := by decide +kernel
theorem dX4_applyGone_23 : decode cX4_applyGone 23 = .ok (.getfield 15, 3) := by decide +kernel
theorem dX4_applyGone_26 : decode cX4_applyGone 26 = .ok (.iload_n 2, 1) := by decide +kernel
theorem dX4_applyGone_27 : decode cX4_applyGone 27 = .ok (.baload, 1) := by decide +kernel
theorem dX4_applyGone_28 : decode cX4_applyGone 28 = .ok (.ifCond .eq 19, 3) := by decide +kernel
theorem dX4_applyGone_31 : decode cX4_applyGone 31 = .ok (.aload_n 0, 1) := by decide +kernel
theorem dX4_applyGone_32 : decode cX4_applyGone 32 = .ok (.iload_n 2, 1) := by decide +kernel
theorem dX4_applyGone_33 : decode cX4_applyGone 33 = .ok (.iload_n 1, 1) := by decide +kernel
theorem dX4_applyGone_34 : decode cX4_applyGone 34 = .ok (.invokevirtual 108, 3) := by decide +kernel
theorem dX4_applyGone_37 : decode cX4_applyGone 37 = .ok (.ifCond .eq 10, 3) := by decide +kernel
theorem dX4_applyGone_40 : decode cX4_applyGone 40 = .ok (.aload_n 0, 1) := by decide +kernel
theorem dX4_applyGone_41 : decode cX4_applyGone 41 = .ok (.getfield 15, 3) := by decide +kernel
theorem dX4_applyGone_44 : decode cX4_applyGone 44 = .ok (.iload_n 2, 1) := by decide +kernel
theorem dX4_applyGone_45 : decode cX4_applyGone 45 = .ok (.iconst 0, 1) := by decide +kernel
theorem dX4_applyGone_46 : decode cX4_applyGone 46 = .ok (.bastore, 1) := by decide +kernel
theorem dX4_applyGone_47 : decode cX4_applyGone 47 = .ok (.iinc 2 1, 3) := by decide +kernel
theorem dX4_applyGone_50 : decode cX4_applyGone 50 = .ok (.goto (-34), 3) := by decide +kernel
theorem dX4_applyGone_53 : decode cX4_applyGone 53 = .ok (.return_, 1) := by decide +kernel
theorem dX4_applyWrite_0 : decode cX4_applyWrite 0 = .ok (.aload_n 1, 1) := by decide +kernel
theorem dX4_applyWrite_1 : decode cX4_applyWrite 1 = .ok (.getfield 82, 3) := by decide +kernel
theorem dX4_applyWrite_4 : decode cX4_applyWrite 4 = .ok (.istore_n 3, 1) := by decide +kernel
theorem dX4_applyWrite_5 : decode cX4_applyWrite 5 = .ok (.aload_n 0, 1) := by decide +kernel
theorem dX4_applyWrite_6 : decode cX4_applyWrite 6 = .ok (.getfield 9, 3) := by decide +kernel
theorem dX4_applyWrite_9 : decode cX4_applyWrite 9 = .ok (.iload_n 3, 1) := by decide +kernel
theorem dX4_applyWrite_10 : decode cX4_applyWrite 10 = .ok (.baload, 1) := by decide +kernel
theorem dX4_applyWrite_11 : decode cX4_applyWrite 11 = .ok (.ifCond .eq 13, 3) := by decide +kernel
theorem dX4_applyWrite_14 : decode cX4_applyWrite 14 = .ok (.aload_n 0, 1) := by decide +kernel
theorem dX4_applyWrite_15 : decode cX4_applyWrite 15 = .ok (.getfield 18, 3) := by decide +kernel
theorem dX4_applyWrite_18 : decode cX4_applyWrite 18 = .ok (.iload_n 3, 1) := by decide +kernel
theorem dX4_applyWrite_19 : decode cX4_applyWrite 19 = .ok (.iaload, 1) := by decide +kernel
theorem dX4_applyWrite_20 : decode cX4_applyWrite 20 = .ok (.iconst 1, 1) := by decide +kernel
theorem dX4_applyWrite_21 : decode cX4_applyWrite 21 = .ok (.if_icmp .eq 4, 3) := by decide +kernel
theorem dX4_applyWrite_24 : decode cX4_applyWrite 24 = .ok (.return_, 1) := by decide +kernel
theorem dX4_applyWrite_25 : decode cX4_applyWrite 25 = .ok (.aload_n 0, 1) := by decide +kernel
theorem dX4_applyWrite_26 : decode cX4_applyWrite 26 = .ok (.getfield 15, 3) := by decide +kernel
theorem dX4_applyWrite_29 : decode cX4_applyWrite 29 = .ok (.iload_n 3, 1) := by decide +kernel
theorem dX4_applyWrite_30 : decode cX4_applyWrite 30 = .ok (.baload, 1) := by decide +kernel
theorem dX4_applyWrite_31 : decode cX4_applyWrite 31 = .ok (.ifCond .ne 46, 3) := by decide +kernel
theorem dX4_applyWrite_34 : decode cX4_applyWrite 34 = .ok (.iload_n 2, 1) := by decide +kernel
theorem dX4_applyWrite_35 : decode cX4_applyWrite 35 = .ok (.iconst 1, 1) := by decide +kernel
theorem dX4_applyWrite_36 : decode cX4_applyWrite 36 = .ok (.iand, 1) := by decide +kernel
theorem dX4_applyWrite_37 : decode cX4_applyWrite 37 = .ok (.ifCond .ne 4, 3) := by decide +kernel
theorem dX4_applyWrite_40 : decode cX4_applyWrite 40 = .ok (.return_, 1) := by decide +kernel
theorem dX4_applyWrite_41 : decode cX4_applyWrite 41 = .ok (.aload_n 0, 1) := by decide +kernel
theorem dX4_applyWrite_42 : decode cX4_applyWrite 42 = .ok (.getfield 15, 3) := by decide +kernel
theorem dX4_applyWrite_45 : decode cX4_applyWrite 45 = .ok (.iload_n 3, 1) := by decide +kernel
theorem dX4_applyWrite_46 : decode cX4_applyWrite 46 = .ok (.iconst 1, 1) := by decide +kernel
theorem dX4_applyWrite_47 : decode cX4_applyWrite 47 = .ok (.bastore, 1) := by decide +kernel
theorem dX4_applyWrite_48 : decode cX4_applyWrite 48 = .ok (.aload_n 0, 1) := by decide +kernel
theorem dX4_applyWrite_49 : decode cX4_applyWrite 49 = .ok (.getfield 22, 3) := by decide +kernel
theorem dX4_applyWrite_52 : decode cX4_applyWrite 52 = .ok (.iload_n 3, 1) := by decide +kernel
theorem dX4_applyWrite_53 : decode cX4_applyWrite 53 = .ok (.aload_n 0, 1) := by decide +kernel
theorem dX4_applyWrite_54 : decode cX4_applyWrite 54 = .ok (.aload_n 0, 1) := by decide +kernel
theorem dX4_applyWrite_55 : decode cX4_applyWrite 55 = .ok (.getfield 22, 3) := by decide +kernel
theorem dX4_applyWrite_58 : decode cX4_applyWrite 58 = .ok (.iload_n 3, 1) := by decide +kernel
theorem dX4_applyWrite_59 : decode cX4_applyWrite 59 = .ok (.iaload, 1) := by decide +kernel
theorem dX4_applyWrite_60 : decode cX4_applyWrite 60 = .ok (.invokevirtual 100, 3) := by decide +kernel
theorem dX4_applyWrite_63 : decode cX4_applyWrite 63 = .ok (.ifCond .eq 12, 3) := by decide +kernel
theorem dX4_applyWrite_66 : decode cX4_applyWrite 66 = .ok (.aload_n 0, 1) := by decide +kernel
theorem dX4_applyWrite_67 : decode cX4_applyWrite 67 = .ok (.getfield 22, 3) := by decide +kernel
theorem dX4_applyWrite_70 : decode cX4_applyWrite 70 = .ok (.iload_n 3, 1) := by decide +kernel
theorem dX4_applyWrite_71 : decode cX4_applyWrite 71 = .ok (.iaload, 1) := by decide +kernel
theorem dX4_applyWrite_72 : decode cX4_applyWrite 72 = .ok (.goto 4, 3) := by decide +kernel
theorem dX4_applyWrite_75 : decode cX4_applyWrite 75 = .ok (.iconst 0, 1) := by decide +kernel
theorem dX4_applyWrite_76 : decode cX4_applyWrite 76 = .ok (.iastore, 1) := by decide +kernel
theorem dX4_applyWrite_77 : decode cX4_applyWrite 77 = .ok (.aload_n 0, 1) := by decide +kernel
theorem dX4_applyWrite_78 : decode cX4_applyWrite 78 = .ok (.iload_n 3, 1) := by decide +kernel
theorem dX4_applyWrite_79 : decode cX4_applyWrite 79 = .ok (.aload_n 1, 1) := by decide +kernel
theorem dX4_applyWrite_80 : decode cX4_applyWrite 80 = .ok (.invokevirtual 111, 3) := by decide +kernel
theorem dX4_applyWrite_83 : decode cX4_applyWrite 83 = .ok (.return_, 1) := by decide +kernel
theorem dX4_holdRow_0 : decode cX4_holdRow 0 = .ok (.iload_n 1, 1) := by decide +kernel
theorem dX4_holdRow_1 : decode cX4_holdRow 1 = .ok (.iconst 4, 1) := by decide +kernel
theorem dX4_holdRow_2 : decode cX4_holdRow 2 = .ok (.imul, 1) := by decide +kernel
theorem dX4_holdRow_3 : decode cX4_holdRow 3 = .ok (.istore_n 3, 1) := by decide +kernel
theorem dX4_holdRow_4 : decode cX4_holdRow 4 = .ok (.iconst 0, 1) := by decide +kernel
theorem dX4_holdRow_5 : decode cX4_holdRow 5 = .ok (.istore 4, 2) := by decide +kernel
theorem dX4_holdRow_7 : decode cX4_holdRow 7 = .ok (.iconst 0, 1) := by decide +kernel
theorem dX4_holdRow_8 : decode cX4_holdRow 8 = .ok (.istore 5, 2) := by decide +kernel
theorem dX4_holdRow_10 : decode cX4_holdRow 10 = .ok (.iload 5, 2) := by decide +kernel
theorem dX4_holdRow_12 : decode cX4_holdRow 12 = .ok (.aload_n 0, 1) := by decide +kernel
theorem dX4_holdRow_13 : decode cX4_holdRow 13 = .ok (.getfield 34, 3) := by decide +kernel
theorem dX4_holdRow_16 : decode cX4_holdRow 16 = .ok (.iload_n 1, 1) := by decide +kernel
theorem dX4_holdRow_17 : decode cX4_holdRow 17 = .ok (.iaload, 1) := by decide +kernel
theorem dX4_holdRow_18 : decode cX4_holdRow 18 = .ok (.if_icmp .ge 44, 3) := by decide +kernel
theorem dX4_holdRow_21 : decode cX4_holdRow 21 = .ok (.aload_n 2, 1) := by decide +kernel
theorem dX4_holdRow_22 : decode cX4_holdRow 22 = .ok (.aload_n 0, 1) := by decide +kernel
theorem dX4_holdRow_23 : decode cX4_holdRow 23 = .ok (.iload_n 1, 1) := by decide +kernel
theorem dX4_holdRow_24 : decode cX4_holdRow 24 = .ok (.iload 5, 2) := by decide +kernel
theorem dX4_holdRow_26 : decode cX4_holdRow 26 = .ok (.invokevirtual 115, 3) := by decide +kernel
theorem dX4_holdRow_29 : decode cX4_holdRow 29 = .ok (.invokevirtual 119, 3) := by decide +kernel
theorem dX4_holdRow_32 : decode cX4_holdRow 32 = .ok (.ifCond .ne 24, 3) := by decide +kernel
theorem dX4_holdRow_35 : decode cX4_holdRow 35 = .ok (.aload_n 0, 1) := by decide +kernel
theorem dX4_holdRow_36 : decode cX4_holdRow 36 = .ok (.getfield 37, 3) := by decide +kernel
theorem dX4_holdRow_39 : decode cX4_holdRow 39 = .ok (.iload_n 3, 1) := by decide +kernel
theorem dX4_holdRow_40 : decode cX4_holdRow 40 = .ok (.iload 4, 2) := by decide +kernel
theorem dX4_holdRow_42 : decode cX4_holdRow 42 = .ok (.iadd, 1) := by decide +kernel
theorem dX4_holdRow_43 : decode cX4_holdRow 43 = .ok (.aload_n 0, 1) := by decide +kernel
theorem dX4_holdRow_44 : decode cX4_holdRow 44 = .ok (.getfield 37, 3) := by decide +kernel
theorem dX4_holdRow_47 : decode cX4_holdRow 47 = .ok (.iload_n 3, 1) := by decide +kernel
theorem dX4_holdRow_48 : decode cX4_holdRow 48 = .ok (.iload 5, 2) := by decide +kernel
theorem dX4_holdRow_50 : decode cX4_holdRow 50 = .ok (.iadd, 1) := by decide +kernel
theorem dX4_holdRow_51 : decode cX4_holdRow 51 = .ok (.iaload, 1) := by decide +kernel
theorem dX4_holdRow_52 : decode cX4_holdRow 52 = .ok (.iastore, 1) := by decide +kernel
theorem dX4_holdRow_53 : decode cX4_holdRow 53 = .ok (.iinc 4 1, 3) := by decide +kernel
theorem dX4_holdRow_56 : decode cX4_holdRow 56 = .ok (.iinc 5 1, 3) := by decide +kernel
theorem dX4_holdRow_59 : decode cX4_holdRow 59 = .ok (.goto (-49), 3) := by decide +kernel
theorem dX4_holdRow_62 : decode cX4_holdRow 62 = .ok (.iload 4, 2) := by decide +kernel
theorem dX4_holdRow_64 : decode cX4_holdRow 64 = .ok (.iconst 4, 1) := by decide +kernel
theorem dX4_holdRow_65 : decode cX4_holdRow 65 = .ok (.if_icmp .ge 19, 3) := by decide +kernel
theorem dX4_holdRow_68 : decode cX4_holdRow 68 = .ok (.aload_n 0, 1) := by decide +kernel
theorem dX4_holdRow_69 : decode cX4_holdRow 69 = .ok (.getfield 37, 3) := by decide +kernel
theorem dX4_holdRow_72 : decode cX4_holdRow 72 = .ok (.iload_n 3, 1) := by decide +kernel
theorem dX4_holdRow_73 : decode cX4_holdRow 73 = .ok (.iload 4, 2) := by decide +kernel
theorem dX4_holdRow_75 : decode cX4_holdRow 75 = .ok (.iadd, 1) := by decide +kernel
theorem dX4_holdRow_76 : decode cX4_holdRow 76 = .ok (.aload_n 2, 1) := by decide +kernel
theorem dX4_holdRow_77 : decode cX4_holdRow 77 = .ok (.invokevirtual 122, 3) := by decide +kernel
theorem dX4_holdRow_80 : decode cX4_holdRow 80 = .ok (.iastore, 1) := by decide +kernel
theorem dX4_holdRow_81 : decode cX4_holdRow 81 = .ok (.iinc 4 1, 3) := by decide +kernel
theorem dX4_holdRow_84 : decode cX4_holdRow 84 = .ok (.aload_n 0, 1) := by decide +kernel
theorem dX4_holdRow_85 : decode cX4_holdRow 85 = .ok (.getfield 34, 3) := by decide +kernel
theorem dX4_holdRow_88 : decode cX4_holdRow 88 = .ok (.iload_n 1, 1) := by decide +kernel
theorem dX4_holdRow_89 : decode cX4_holdRow 89 = .ok (.iload 4, 2) := by decide +kernel
theorem dX4_holdRow_91 : decode cX4_holdRow 91 = .ok (.iastore, 1) := by decide +kernel
theorem dX4_holdRow_92 : decode cX4_holdRow 92 = .ok (.return_, 1) := by decide +kernel
theorem dX4_nameAll_0 : decode cX4_nameAll 0 = .ok (.iload_n 1, 1) := by decide +kernel
theorem dX4_nameAll_1 : decode cX4_nameAll 1 = .ok (.iconst 2, 1) := by decide +kernel
theorem dX4_nameAll_2 : decode cX4_nameAll 2 = .ok (.iand, 1) := by decide +kernel
theorem dX4_nameAll_3 : decode cX4_nameAll 3 = .ok (.ifCond .eq 7, 3) := by decide +kernel
theorem dX4_nameAll_6 : decode cX4_nameAll 6 = .ok (.iconst 1, 1) := by decide +kernel
theorem dX4_nameAll_7 : decode cX4_nameAll 7 = .ok (.goto 4, 3) := by decide +kernel
theorem dX4_nameAll_10 : decode cX4_nameAll 10 = .ok (.iconst 0, 1) := by decide +kernel
theorem dX4_nameAll_11 : decode cX4_nameAll 11 = .ok (.istore_n 2, 1) := by decide +kernel
theorem dX4_nameAll_12 : decode cX4_nameAll 12 = .ok (.aload_n 0, 1) := by decide +kernel
theorem dX4_nameAll_13 : decode cX4_nameAll 13 = .ok (.iload_n 2, 1) := by decide +kernel
theorem dX4_nameAll_14 : decode cX4_nameAll 14 = .ok (.invokevirtual 126, 3) := by decide +kernel
theorem dX4_nameAll_17 : decode cX4_nameAll 17 = .ok (.istore_n 3, 1) := by decide +kernel
theorem dX4_nameAll_18 : decode cX4_nameAll 18 = .ok (.iconst 1, 1) := by decide +kernel
theorem dX4_nameAll_19 : decode cX4_nameAll 19 = .ok (.istore 4, 2) := by decide +kernel
theorem dX4_nameAll_21 : decode cX4_nameAll 21 = .ok (.iload 4, 2) := by decide +kernel
theorem dX4_nameAll_23 : decode cX4_nameAll 23 = .ok (.bipush 12, 2) := by decide +kernel
theorem dX4_nameAll_25 : decode cX4_nameAll 25 = .ok (.if_icmp .ge 32, 3) := by decide +kernel
theorem dX4_nameAll_28 : decode cX4_nameAll 28 = .ok (.iload_n 3, 1) := by decide +kernel
theorem dX4_nameAll_29 : decode cX4_nameAll 29 = .ok (.bipush (-9), 2) := by decide +kernel
theorem dX4_nameAll_31 : decode cX4_nameAll 31 = .ok (.if_icmp .eq 26, 3) := by decide +kernel
theorem dX4_nameAll_34 : decode cX4_nameAll 34 = .ok (.aload_n 0, 1) := by decide +kernel
theorem dX4_nameAll_35 : decode cX4_nameAll 35 = .ok (.getfield 28, 3) := by decide +kernel
theorem dX4_nameAll_38 : decode cX4_nameAll 38 = .ok (.iload_n 3, 1) := by decide +kernel
theorem dX4_nameAll_39 : decode cX4_nameAll 39 = .ok (.aload_n 0, 1) := by decide +kernel
theorem dX4_nameAll_40 : decode cX4_nameAll 40 = .ok (.iload_n 3, 1) := by decide +kernel
theorem dX4_nameAll_41 : decode cX4_nameAll 41 = .ok (.invokevirtual 130, 3) := by decide +kernel
theorem dX4_nameAll_44 : decode cX4_nameAll 44 = .ok (.iastore, 1) := by decide +kernel
theorem dX4_nameAll_45 : decode cX4_nameAll 45 = .ok (.aload_n 0, 1) := by decide +kernel
theorem dX4_nameAll_46 : decode cX4_nameAll 46 = .ok (.iload_n 2, 1) := by decide +kernel
theorem dX4_nameAll_47 : decode cX4_nameAll 47 = .ok (.invokevirtual 126, 3) := by decide +kernel
theorem dX4_nameAll_50 : decode cX4_nameAll 50 = .ok (.istore_n 3, 1) := by decide +kernel
theorem dX4_nameAll_51 : decode cX4_nameAll 51 = .ok (.iinc 4 1, 3) := by decide +kernel
theorem dX4_nameAll_54 : decode cX4_nameAll 54 = .ok (.goto (-33), 3) := by decide +kernel
theorem dX4_nameAll_57 : decode cX4_nameAll 57 = .ok (.return_, 1) := by decide +kernel
theorem dX4_nextUnnamed_0 : decode cX4_nextUnnamed 0 = .ok (.bipush (-9), 2) := by decide +kernel
theorem dX4_nextUnnamed_2 : decode cX4_nextUnnamed 2 = .ok (.istore_n 2, 1) := by decide +kernel
theorem dX4_nextUnnamed_3 : decode cX4_nextUnnamed 3 = .ok (.iconst 1, 1) := by decide +kernel
theorem dX4_nextUnnamed_4 : decode cX4_nextUnnamed 4 = .ok (.istore_n 3, 1) := by decide +kernel
theorem dX4_nextUnnamed_5 : decode cX4_nextUnnamed 5 = .ok (.iload_n 3, 1) := by decide +kernel
theorem dX4_nextUnnamed_6 : decode cX4_nextUnnamed 6 = .ok (.bipush 12, 2) := by decide +kernel
theorem dX4_nextUnnamed_8 : decode cX4_nextUnnamed 8 = .ok (.if_icmp .ge 60, 3) := by decide +kernel
theorem dX4_nextUnnamed_11 : decode cX4_nextUnnamed 11 = .ok (.aload_n 0, 1) := by decide +kernel
theorem dX4_nextUnnamed_12 : decode cX4_nextUnnamed 12 = .ok (.getfield 15, 3) := by decide +kernel
theorem dX4_nextUnnamed_15 : decode cX4_nextUnnamed 15 = .ok (.iload_n 3, 1) := by decide +kernel
theorem dX4_nextUnnamed_16 : decode cX4_nextUnnamed 16 = .ok (.baload, 1) := by decide +kernel
theorem dX4_nextUnnamed_17 : decode cX4_nextUnnamed 17 = .ok (.ifCond .eq 45, 3) := by decide +kernel
theorem dX4_nextUnnamed_20 : decode cX4_nextUnnamed 20 = .ok (.aload_n 0, 1) := by decide +kernel
theorem dX4_nextUnnamed_21 : decode cX4_nextUnnamed 21 = .ok (.getfield 28, 3) := by decide +kernel
theorem dX4_nextUnnamed_24 : decode cX4_nextUnnamed 24 = .ok (.iload_n 3, 1) := by decide +kernel
theorem dX4_nextUnnamed_25 : decode cX4_nextUnnamed 25 = .ok (.iaload, 1) := by decide +kernel
theorem dX4_nextUnnamed_26 : decode cX4_nextUnnamed 26 = .ok (.iconst (-1), 1) := by decide +kernel
theorem dX4_nextUnnamed_27 : decode cX4_nextUnnamed 27 = .ok (.if_icmp .ne 35, 3) := by decide +kernel
theorem dX4_nextUnnamed_30 : decode cX4_nextUnnamed 30 = .ok (.iload_n 2, 1) := by decide +kernel
theorem dX4_nextUnnamed_31 : decode cX4_nextUnnamed 31 = .ok (.bipush (-9), 2) := by decide +kernel
theorem dX4_nextUnnamed_33 : decode cX4_nextUnnamed 33 = .ok (.if_icmp .eq 27, 3) := by decide +kernel
theorem dX4_nextUnnamed_36 : decode cX4_nextUnnamed 36 = .ok (.aload_n 0, 1) := by decide +kernel
theorem dX4_nextUnnamed_37 : decode cX4_nextUnnamed 37 = .ok (.getfield 31, 3) := by decide +kernel
theorem dX4_nextUnnamed_40 : decode cX4_nextUnnamed 40 = .ok (.iload_n 3, 1) := by decide +kernel
theorem dX4_nextUnnamed_41 : decode cX4_nextUnnamed 41 = .ok (.iaload, 1) := by decide +kernel
theorem dX4_nextUnnamed_42 : decode cX4_nextUnnamed 42 = .ok (.aload_n 0, 1) := by decide +kernel
theorem dX4_nextUnnamed_43 : decode cX4_nextUnnamed 43 = .ok (.getfield 31, 3) := by decide +kernel
theorem dX4_nextUnnamed_46 : decode cX4_nextUnnamed 46 = .ok (.iload_n 2, 1) := by decide +kernel
theorem dX4_nextUnnamed_47 : decode cX4_nextUnnamed 47 = .ok (.iaload, 1) := by decide +kernel
theorem dX4_nextUnnamed_48 : decode cX4_nextUnnamed 48 = .ok (.if_icmp .ge 7, 3) := by decide +kernel
theorem dX4_nextUnnamed_51 : decode cX4_nextUnnamed 51 = .ok (.iconst 1, 1) := by decide +kernel
theorem dX4_nextUnnamed_52 : decode cX4_nextUnnamed 52 = .ok (.goto 4, 3) := by decide +kernel
theorem dX4_nextUnnamed_55 : decode cX4_nextUnnamed 55 = .ok (.iconst 0, 1) := by decide +kernel
theorem dX4_nextUnnamed_56 : decode cX4_nextUnnamed 56 = .ok (.iload_n 1, 1) := by decide +kernel
theorem dX4_nextUnnamed_57 : decode cX4_nextUnnamed 57 = .ok (.if_icmp .ne 5, 3) := by decide +kernel
theorem dX4_nextUnnamed_60 : decode cX4_nextUnnamed 60 = .ok (.iload_n 3, 1) := by decide +kernel
theorem dX4_nextUnnamed_61 : decode cX4_nextUnnamed 61 = .ok (.istore_n 2, 1) := by decide +kernel
theorem dX4_nextUnnamed_62 : decode cX4_nextUnnamed 62 = .ok (.iinc 3 1, 3) := by decide +kernel
theorem dX4_nextUnnamed_65 : decode cX4_nextUnnamed 65 = .ok (.goto (-60), 3) := by decide +kernel
theorem dX4_nextUnnamed_68 : decode cX4_nextUnnamed 68 = .ok (.iload_n 2, 1) := by decide +kernel
theorem dX4_nextUnnamed_69 : decode cX4_nextUnnamed 69 = .ok (.ireturn, 1) := by decide +kernel
theorem dX4_freeNameFor_0 : decode cX4_freeNameFor 0 = .ok (.aload_n 0, 1) := by decide +kernel
theorem dX4_freeNameFor_1 : decode cX4_freeNameFor 1 = .ok (.aload_n 0, 1) := by decide +kernel
theorem dX4_freeNameFor_2 : decode cX4_freeNameFor 2 = .ok (.getfield 22, 3) := by decide +kernel
theorem dX4_freeNameFor_5 : decode cX4_freeNameFor 5 = .ok (.iload_n 1, 1) := by decide +kernel
theorem dX4_freeNameFor_6 : decode cX4_freeNameFor 6 = .ok (.iaload, 1) := by decide +kernel
theorem dX4_freeNameFor_7 : decode cX4_freeNameFor 7 = .ok (.aload_n 0, 1) := by decide +kernel
theorem dX4_freeNameFor_8 : decode cX4_freeNameFor 8 = .ok (.getfield 25, 3) := by decide +kernel
theorem dX4_freeNameFor_11 : decode cX4_freeNameFor 11 = .ok (.iload_n 1, 1) := by decide +kernel
theorem dX4_freeNameFor_12 : decode cX4_freeNameFor 12 = .ok (.iaload, 1) := by decide +kernel
theorem dX4_freeNameFor_13 : decode cX4_freeNameFor 13 = .ok (.invokevirtual 134, 3) := by decide +kernel
theorem dX4_freeNameFor_16 : decode cX4_freeNameFor 16 = .ok (.bipush (-9), 2) := by decide +kernel
theorem dX4_freeNameFor_18 : decode cX4_freeNameFor 18 = .ok (.if_icmp .ne 10, 3) := by decide +kernel
theorem dX4_freeNameFor_21 : decode cX4_freeNameFor 21 = .ok (.aload_n 0, 1) := by decide +kernel
theorem dX4_freeNameFor_22 : decode cX4_freeNameFor 22 = .ok (.getfield 25, 3) := by decide +kernel
theorem dX4_freeNameFor_25 : decode cX4_freeNameFor 25 = .ok (.iload_n 1, 1) := by decide +kernel
theorem dX4_freeNameFor_26 : decode cX4_freeNameFor 26 = .ok (.iaload, 1) := by decide +kernel
theorem dX4_freeNameFor_27 : decode cX4_freeNameFor 27 = .ok (.ireturn, 1) := by decide +kernel
theorem dX4_freeNameFor_28 : decode cX4_freeNameFor 28 = .ok (.bipush 10, 2) := by decide +kernel
theorem dX4_freeNameFor_30 : decode cX4_freeNameFor 30 = .ok (.istore_n 2, 1) := by decide +kernel
theorem dX4_freeNameFor_31 : decode cX4_freeNameFor 31 = .ok (.iload_n 2, 1) := by decide +kernel
theorem dX4_freeNameFor_32 : decode cX4_freeNameFor 32 = .ok (.bipush 22, 2) := by decide +kernel
theorem dX4_freeNameFor_34 : decode cX4_freeNameFor 34 = .ok (.if_icmp .ge 25, 3) := by decide +kernel
theorem dX4_freeNameFor_37 : decode cX4_freeNameFor 37 = .ok (.aload_n 0, 1) := by decide +kernel
theorem dX4_freeNameFor_38 : decode cX4_freeNameFor 38 = .ok (.aload_n 0, 1) := by decide +kernel
theorem dX4_freeNameFor_39 : decode cX4_freeNameFor 39 = .ok (.getfield 22, 3) := by decide +kernel
theorem dX4_freeNameFor_42 : decode cX4_freeNameFor 42 = .ok (.iload_n 1, 1) := by decide +kernel
theorem dX4_freeNameFor_43 : decode cX4_freeNameFor 43 = .ok (.iaload, 1) := by decide +kernel
theorem dX4_freeNameFor_44 : decode cX4_freeNameFor 44 = .ok (.iload_n 2, 1) := by decide +kernel
theorem dX4_freeNameFor_45 : decode cX4_freeNameFor 45 = .ok (.invokevirtual 134, 3) := by decide +kernel
theorem dX4_freeNameFor_48 : decode cX4_freeNameFor 48 = .ok (.bipush (-9), 2) := by decide +kernel
theorem dX4_freeNameFor_50 : decode cX4_freeNameFor 50 = .ok (.if_icmp .eq 9, 3) := by decide +kernel
theorem dX4_freeNameFor_53 : decode cX4_freeNameFor 53 = .ok (.iinc 2 1, 3) := by decide +kernel
theorem dX4_freeNameFor_56 : decode cX4_freeNameFor 56 = .ok (.goto (-25), 3) := by decide +kernel
theorem dX4_freeNameFor_59 : decode cX4_freeNameFor 59 = .ok (.iload_n 2, 1) := by decide +kernel
theorem dX4_freeNameFor_60 : decode cX4_freeNameFor 60 = .ok (.ireturn, 1) := by decide +kernel
theorem dX4_thingNamed_0 : decode cX4_thingNamed 0 = .ok (.iconst 1, 1) := by decide +kernel
theorem dX4_thingNamed_1 : decode cX4_thingNamed 1 = .ok (.istore_n 3, 1) := by decide +kernel
theorem dX4_thingNamed_2 : decode cX4_thingNamed 2 = .ok (.iload_n 3, 1) := by decide +kernel
theorem dX4_thingNamed_3 : decode cX4_thingNamed 3 = .ok (.bipush 12, 2) := by decide +kernel
theorem dX4_thingNamed_5 : decode cX4_thingNamed 5 = .ok (.if_icmp .ge 40, 3) := by decide +kernel
theorem dX4_thingNamed_8 : decode cX4_thingNamed 8 = .ok (.aload_n 0, 1) := by decide +kernel
theorem dX4_thingNamed_9 : decode cX4_thingNamed 9 = .ok (.getfield 15, 3) := by decide +kernel
theorem dX4_thingNamed_12 : decode cX4_thingNamed 12 = .ok (.iload_n 3, 1) := by decide +kernel
theorem dX4_thingNamed_13 : decode cX4_thingNamed 13 = .ok (.baload, 1) := by decide +kernel
theorem dX4_thingNamed_14 : decode cX4_thingNamed 14 = .ok (.ifCond .eq 25, 3) := by decide +kernel
theorem dX4_thingNamed_17 : decode cX4_thingNamed 17 = .ok (.aload_n 0, 1) := by decide +kernel
theorem dX4_thingNamed_18 : decode cX4_thingNamed 18 = .ok (.getfield 22, 3) := by decide +kernel
theorem dX4_thingNamed_21 : decode cX4_thingNamed 21 = .ok (.iload_n 3, 1) := by decide +kernel
theorem dX4_thingNamed_22 : decode cX4_thingNamed 22 = .ok (.iaload, 1) := by decide +kernel
theorem dX4_thingNamed_23 : decode cX4_thingNamed 23 = .ok (.iload_n 1, 1) := by decide +kernel
theorem dX4_thingNamed_24 : decode cX4_thingNamed 24 = .ok (.if_icmp .ne 15, 3) := by decide +kernel
theorem dX4_thingNamed_27 : decode cX4_thingNamed 27 = .ok (.aload_n 0, 1) := by decide +kernel
theorem dX4_thingNamed_28 : decode cX4_thingNamed 28 = .ok (.getfield 28, 3) := by decide +kernel
theorem dX4_thingNamed_31 : decode cX4_thingNamed 31 = .ok (.iload_n 3, 1) := by decide +kernel
theorem dX4_thingNamed_32 : decode cX4_thingNamed 32 = .ok (.iaload, 1) := by decide +kernel
theorem dX4_thingNamed_33 : decode cX4_thingNamed 33 = .ok (.iload_n 2, 1) := by decide +kernel
theorem dX4_thingNamed_34 : decode cX4_thingNamed 34 = .ok (.if_icmp .ne 5, 3) := by decide +kernel
theorem dX4_thingNamed_37 : decode cX4_thingNamed 37 = .ok (.iload_n 3, 1) := by decide +kernel
theorem dX4_thingNamed_38 : decode cX4_thingNamed 38 = .ok (.ireturn, 1) := by decide +kernel
theorem dX4_thingNamed_39 : decode cX4_thingNamed 39 = .ok (.iinc 3 1, 3) := by decide +kernel
theorem dX4_thingNamed_42 : decode cX4_thingNamed 42 = .ok (.goto (-40), 3) := by decide +kernel
theorem dX4_thingNamed_45 : decode cX4_thingNamed 45 = .ok (.bipush (-9), 2) := by decide +kernel
theorem dX4_thingNamed_47 : decode cX4_thingNamed 47 = .ok (.ireturn, 1) := by decide +kernel
theorem dX4_isThere_0 : decode cX4_isThere 0 = .ok (.aload_n 0, 1) := by decide +kernel
theorem dX4_isThere_1 : decode cX4_isThere 1 = .ok (.getfield 15, 3) := by decide +kernel
theorem dX4_isThere_4 : decode cX4_isThere 4 = .ok (.iload_n 1, 1) := by decide +kernel
theorem dX4_isThere_5 : decode cX4_isThere 5 = .ok (.baload, 1) := by decide +kernel
theorem dX4_isThere_6 : decode cX4_isThere 6 = .ok (.ireturn, 1) := by decide +kernel
theorem dX4_isFile_0 : decode cX4_isFile 0 = .ok (.aload_n 0, 1) := by decide +kernel
theorem dX4_isFile_1 : decode cX4_isFile 1 = .ok (.getfield 15, 3) := by decide +kernel
theorem dX4_isFile_4 : decode cX4_isFile 4 = .ok (.iload_n 1, 1) := by decide +kernel
theorem dX4_isFile_5 : decode cX4_isFile 5 = .ok (.baload, 1) := by decide +kernel
theorem dX4_isFile_6 : decode cX4_isFile 6 = .ok (.ifCond .eq 17, 3) := by decide +kernel
theorem dX4_isFile_9 : decode cX4_isFile 9 = .ok (.aload_n 0, 1) := by decide +kernel
theorem dX4_isFile_10 : decode cX4_isFile 10 = .ok (.getfield 18, 3) := by decide +kernel
theorem dX4_isFile_13 : decode cX4_isFile 13 = .ok (.iload_n 1, 1) := by decide +kernel
theorem dX4_isFile_14 : decode cX4_isFile 14 = .ok (.iaload, 1) := by decide +kernel
theorem dX4_isFile_15 : decode cX4_isFile 15 = .ok (.iconst 1, 1) := by decide +kernel
theorem dX4_isFile_16 : decode cX4_isFile 16 = .ok (.if_icmp .ne 7, 3) := by decide +kernel
theorem dX4_isFile_19 : decode cX4_isFile 19 = .ok (.iconst 1, 1) := by decide +kernel
theorem dX4_isFile_20 : decode cX4_isFile 20 = .ok (.goto 4, 3) := by decide +kernel
theorem dX4_isFile_23 : decode cX4_isFile 23 = .ok (.iconst 0, 1) := by decide +kernel
theorem dX4_isFile_24 : decode cX4_isFile 24 = .ok (.ireturn, 1) := by decide +kernel
theorem dX4_isFolder_0 : decode cX4_isFolder 0 = .ok (.aload_n 0, 1) := by decide +kernel
theorem dX4_isFolder_1 : decode cX4_isFolder 1 = .ok (.getfield 15, 3) := by decide +kernel
theorem dX4_isFolder_4 : decode cX4_isFolder 4 = .ok (.iload_n 1, 1) := by decide +kernel
theorem dX4_isFolder_5 : decode cX4_isFolder 5 = .ok (.baload, 1) := by decide +kernel
theorem dX4_isFolder_6 : decode cX4_isFolder 6 = .ok (.ifCond .eq 17, 3) := by decide +kernel
theorem dX4_isFolder_9 : decode cX4_isFolder 9 = .ok (.aload_n 0, 1) := by decide +kernel
theorem dX4_isFolder_10 : decode cX4_isFolder 10 = .ok (.getfield 18, 3) := by decide +kernel
theorem dX4_isFolder_13 : decode cX4_isFolder 13 = .ok (.iload_n 1, 1) := by decide +kernel
theorem dX4_isFolder_14 : decode cX4_isFolder 14 = .ok (.iaload, 1) := by decide +kernel
theorem dX4_isFolder_15 : decode cX4_isFolder 15 = .ok (.iconst 2, 1) := by decide +kernel
theorem dX4_isFolder_16 : decode cX4_isFolder 16 = .ok (.if_icmp .ne 7, 3) := by decide +kernel
theorem dX4_isFolder_19 : decode cX4_isFolder 19 = .ok (.iconst 1, 1) := by decide +kernel
theorem dX4_isFolder_20 : decode cX4_isFolder 20 = .ok (.goto 4, 3) := by decide +kernel
theorem dX4_isFolder_23 : decode cX4_isFolder 23 = .ok (.iconst 0, 1) := by decide +kernel
theorem dX4_isFolder_24 : decode cX4_isFolder 24 = .ok (.ireturn, 1) := by decide +kernel
theorem dX4_mayMove_0 : decode cX4_mayMove 0 = .ok (.iload_n 1, 1) := by decide +kernel
theorem dX4_mayMove_1 : decode cX4_mayMove 1 = .ok (.ifCond .eq 33, 3) := by decide +kernel
theorem dX4_mayMove_4 : decode cX4_mayMove 4 = .ok (.aload_n 0, 1) := by decide +kernel
theorem dX4_mayMove_5 : decode cX4_mayMove 5 = .ok (.getfield 15, 3) := by decide +kernel
theorem dX4_mayMove_8 : decode cX4_mayMove 8 = .ok (.iload_n 1, 1) := by decide +kernel
theorem dX4_mayMove_9 : decode cX4_mayMove 9 = .ok (.baload, 1) := by decide +kernel
theorem dX4_mayMove_10 : decode cX4_mayMove 10 = .ok (.ifCond .eq 24, 3) := by decide +kernel
theorem dX4_mayMove_13 : decode cX4_mayMove 13 = .ok (.aload_n 0, 1) := by decide +kernel
theorem dX4_mayMove_14 : decode cX4_mayMove 14 = .ok (.iload_n 2, 1) := by decide +kernel
theorem dX4_mayMove_15 : decode cX4_mayMove 15 = .ok (.invokevirtual 100, 3) := by decide +kernel
theorem dX4_mayMove_18 : decode cX4_mayMove 18 = .ok (.ifCond .eq 16, 3) := by decide +kernel
theorem dX4_mayMove_21 : decode cX4_mayMove 21 = .ok (.aload_n 0, 1) := by decide +kernel
theorem dX4_mayMove_22 : decode cX4_mayMove 22 = .ok (.iload_n 2, 1) := by decide +kernel
theorem dX4_mayMove_23 : decode cX4_mayMove 23 = .ok (.iload_n 1, 1) := by decide +kernel
theorem dX4_mayMove_24 : decode cX4_mayMove 24 = .ok (.invokevirtual 108, 3) := by decide +kernel
theorem dX4_mayMove_27 : decode cX4_mayMove 27 = .ok (.ifCond .ne 7, 3) := by decide +kernel
theorem dX4_mayMove_30 : decode cX4_mayMove 30 = .ok (.iconst 1, 1) := by decide +kernel
theorem dX4_mayMove_31 : decode cX4_mayMove 31 = .ok (.goto 4, 3) := by decide +kernel
theorem dX4_mayMove_34 : decode cX4_mayMove 34 = .ok (.iconst 0, 1) := by decide +kernel
theorem dX4_mayMove_35 : decode cX4_mayMove 35 = .ok (.ireturn, 1) := by decide +kernel
theorem dX4_isWithin_0 : decode cX4_isWithin 0 = .ok (.iload_n 1, 1) := by decide +kernel
theorem dX4_isWithin_1 : decode cX4_isWithin 1 = .ok (.istore_n 3, 1) := by decide +kernel
theorem dX4_isWithin_2 : decode cX4_isWithin 2 = .ok (.iconst 0, 1) := by decide +kernel
theorem dX4_isWithin_3 : decode cX4_isWithin 3 = .ok (.istore 4, 2) := by decide +kernel
theorem dX4_isWithin_5 : decode cX4_isWithin 5 = .ok (.iload 4, 2) := by decide +kernel
theorem dX4_isWithin_7 : decode cX4_isWithin 7 = .ok (.bipush 12, 2) := by decide +kernel
theorem dX4_isWithin_9 : decode cX4_isWithin 9 = .ok (.if_icmp .ge 25, 3) := by decide +kernel
theorem dX4_isWithin_12 : decode cX4_isWithin 12 = .ok (.iload_n 3, 1) := by decide +kernel
theorem dX4_isWithin_13 : decode cX4_isWithin 13 = .ok (.iload_n 2, 1) := by decide +kernel
theorem dX4_isWithin_14 : decode cX4_isWithin 14 = .ok (.if_icmp .eq 20, 3) := by decide +kernel
theorem dX4_isWithin_17 : decode cX4_isWithin 17 = .ok (.iload_n 3, 1) := by decide +kernel
theorem dX4_isWithin_18 : decode cX4_isWithin 18 = .ok (.ifCond .eq 16, 3) := by decide +kernel
theorem dX4_isWithin_21 : decode cX4_isWithin 21 = .ok (.aload_n 0, 1) := by decide +kernel
theorem dX4_isWithin_22 : decode cX4_isWithin 22 = .ok (.getfield 22, 3) := by decide +kernel
theorem dX4_isWithin_25 : decode cX4_isWithin 25 = .ok (.iload_n 3, 1) := by decide +kernel
theorem dX4_isWithin_26 : decode cX4_isWithin 26 = .ok (.iaload, 1) := by decide +kernel
theorem dX4_isWithin_27 : decode cX4_isWithin 27 = .ok (.istore_n 3, 1) := by decide +kernel
theorem dX4_isWithin_28 : decode cX4_isWithin 28 = .ok (.iinc 4 1, 3) := by decide +kernel
theorem dX4_isWithin_31 : decode cX4_isWithin 31 = .ok (.goto (-26), 3) := by decide +kernel
theorem dX4_isWithin_34 : decode cX4_isWithin 34 = .ok (.iload_n 3, 1) := by decide +kernel
theorem dX4_isWithin_35 : decode cX4_isWithin 35 = .ok (.iload_n 2, 1) := by decide +kernel
theorem dX4_isWithin_36 : decode cX4_isWithin 36 = .ok (.if_icmp .ne 7, 3) := by decide +kernel
theorem dX4_isWithin_39 : decode cX4_isWithin 39 = .ok (.iconst 1, 1) := by decide +kernel
theorem dX4_isWithin_40 : decode cX4_isWithin 40 = .ok (.goto 4, 3) := by decide +kernel
theorem dX4_isWithin_43 : decode cX4_isWithin 43 = .ok (.iconst 0, 1) := by decide +kernel
theorem dX4_isWithin_44 : decode cX4_isWithin 44 = .ok (.ireturn, 1) := by decide +kernel
theorem dX4_rowOf_0 : decode cX4_rowOf 0 = .ok (.aload_n 0, 1) := by decide +kernel
theorem dX4_rowOf_1 : decode cX4_rowOf 1 = .ok (.getfield 40, 3) := by decide +kernel
theorem dX4_rowOf_4 : decode cX4_rowOf 4 = .ok (.getfield 138, 3) := by decide +kernel
theorem dX4_rowOf_7 : decode cX4_rowOf 7 = .ok (.aload_n 0, 1) := by decide +kernel
theorem dX4_rowOf_8 : decode cX4_rowOf 8 = .ok (.getfield 37, 3) := by decide +kernel
theorem dX4_rowOf_11 : decode cX4_rowOf 11 = .ok (.iload_n 1, 1) := by decide +kernel
theorem dX4_rowOf_12 : decode cX4_rowOf 12 = .ok (.iconst 4, 1) := by decide +kernel
theorem dX4_rowOf_13 : decode cX4_rowOf 13 = .ok (.imul, 1) := by decide +kernel
theorem dX4_rowOf_14 : decode cX4_rowOf 14 = .ok (.iload_n 2, 1) := by decide +kernel
theorem dX4_rowOf_15 : decode cX4_rowOf 15 = .ok (.iadd, 1) := by decide +kernel
theorem dX4_rowOf_16 : decode cX4_rowOf 16 = .ok (.iaload, 1) := by decide +kernel
theorem dX4_rowOf_17 : decode cX4_rowOf 17 = .ok (.aaload, 1) := by decide +kernel
theorem dX4_rowOf_18 : decode cX4_rowOf 18 = .ok (.areturn, 1) := by decide +kernel
theorem dX4_childCount_0 : decode cX4_childCount 0 = .ok (.iconst 0, 1) := by decide +kernel
theorem dX4_childCount_1 : decode cX4_childCount 1 = .ok (.istore_n 2, 1) := by decide +kernel
theorem dX4_childCount_2 : decode cX4_childCount 2 = .ok (.iconst 1, 1) := by decide +kernel
theorem dX4_childCount_3 : decode cX4_childCount 3 = .ok (.istore_n 3, 1) := by decide +kernel
theorem dX4_childCount_4 : decode cX4_childCount 4 = .ok (.iload_n 3, 1) := by decide +kernel
theorem dX4_childCount_5 : decode cX4_childCount 5 = .ok (.bipush 12, 2) := by decide +kernel
theorem dX4_childCount_7 : decode cX4_childCount 7 = .ok (.if_icmp .ge 31, 3) := by decide +kernel
theorem dX4_childCount_10 : decode cX4_childCount 10 = .ok (.aload_n 0, 1) := by decide +kernel
theorem dX4_childCount_11 : decode cX4_childCount 11 = .ok (.getfield 15, 3) := by decide +kernel
theorem dX4_childCount_14 : decode cX4_childCount 14 = .ok (.iload_n 3, 1) := by decide +kernel
theorem dX4_childCount_15 : decode cX4_childCount 15 = .ok (.baload, 1) := by decide +kernel
theorem dX4_childCount_16 : decode cX4_childCount 16 = .ok (.ifCond .eq 16, 3) := by decide +kernel
theorem dX4_childCount_19 : decode cX4_childCount 19 = .ok (.aload_n 0, 1) := by decide +kernel
theorem dX4_childCount_20 : decode cX4_childCount 20 = .ok (.getfield 22, 3) := by decide +kernel
theorem dX4_childCount_23 : decode cX4_childCount 23 = .ok (.iload_n 3, 1) := by decide +kernel
theorem dX4_childCount_24 : decode cX4_childCount 24 = .ok (.iaload, 1) := by decide +kernel
theorem dX4_childCount_25 : decode cX4_childCount 25 = .ok (.iload_n 1, 1) := by decide +kernel
theorem dX4_childCount_26 : decode cX4_childCount 26 = .ok (.if_icmp .ne 6, 3) := by decide +kernel
theorem dX4_childCount_29 : decode cX4_childCount 29 = .ok (.iinc 2 1, 3) := by decide +kernel
theorem dX4_childCount_32 : decode cX4_childCount 32 = .ok (.iinc 3 1, 3) := by decide +kernel
theorem dX4_childCount_35 : decode cX4_childCount 35 = .ok (.goto (-31), 3) := by decide +kernel
theorem dX4_childCount_38 : decode cX4_childCount 38 = .ok (.iload_n 2, 1) := by decide +kernel
theorem dX4_childCount_39 : decode cX4_childCount 39 = .ok (.ireturn, 1) := by decide +kernel
theorem dX4_byteCount_0 : decode cX4_byteCount 0 = .ok (.iconst 0, 1) := by decide +kernel
theorem dX4_byteCount_1 : decode cX4_byteCount 1 = .ok (.istore_n 2, 1) := by decide +kernel
theorem dX4_byteCount_2 : decode cX4_byteCount 2 = .ok (.iconst 0, 1) := by decide +kernel
theorem dX4_byteCount_3 : decode cX4_byteCount 3 = .ok (.istore_n 3, 1) := by decide +kernel
theorem dX4_byteCount_4 : decode cX4_byteCount 4 = .ok (.iload_n 3, 1) := by decide +kernel
theorem dX4_byteCount_5 : decode cX4_byteCount 5 = .ok (.aload_n 0, 1) := by decide +kernel
theorem dX4_byteCount_6 : decode cX4_byteCount 6 = .ok (.getfield 34, 3) := by decide +kernel
theorem dX4_byteCount_9 : decode cX4_byteCount 9 = .ok (.iload_n 1, 1) := by decide +kernel
theorem dX4_byteCount_10 : decode cX4_byteCount 10 = .ok (.iaload, 1) := by decide +kernel
theorem dX4_byteCount_11 : decode cX4_byteCount 11 = .ok (.if_icmp .ge 21, 3) := by decide +kernel
theorem dX4_byteCount_14 : decode cX4_byteCount 14 = .ok (.iload_n 2, 1) := by decide +kernel
theorem dX4_byteCount_15 : decode cX4_byteCount 15 = .ok (.aload_n 0, 1) := by decide +kernel
theorem dX4_byteCount_16 : decode cX4_byteCount 16 = .ok (.iload_n 1, 1) := by decide +kernel
theorem dX4_byteCount_17 : decode cX4_byteCount 17 = .ok (.iload_n 3, 1) := by decide +kernel
theorem dX4_byteCount_18 : decode cX4_byteCount 18 = .ok (.invokevirtual 115, 3) := by decide +kernel
theorem dX4_byteCount_21 : decode cX4_byteCount 21 = .ok (.getfield 142, 3) := by decide +kernel
theorem dX4_byteCount_24 : decode cX4_byteCount 24 = .ok (.iadd, 1) := by decide +kernel
theorem dX4_byteCount_25 : decode cX4_byteCount 25 = .ok (.istore_n 2, 1) := by decide +kernel
theorem dX4_byteCount_26 : decode cX4_byteCount 26 = .ok (.iinc 3 1, 3) := by decide +kernel
theorem dX4_byteCount_29 : decode cX4_byteCount 29 = .ok (.goto (-25), 3) := by decide +kernel
theorem dX4_byteCount_32 : decode cX4_byteCount 32 = .ok (.iload_n 2, 1) := by decide +kernel
theorem dX4_byteCount_33 : decode cX4_byteCount 33 = .ok (.ireturn, 1) := by decide +kernel
theorem dX4_byteTotal_0 : decode cX4_byteTotal 0 = .ok (.iconst 0, 1) := by decide +kernel
theorem dX4_byteTotal_1 : decode cX4_byteTotal 1 = .ok (.istore_n 2, 1) := by decide +kernel
theorem dX4_byteTotal_2 : decode cX4_byteTotal 2 = .ok (.iconst 0, 1) := by decide +kernel
theorem dX4_byteTotal_3 : decode cX4_byteTotal 3 = .ok (.istore_n 3, 1) := by decide +kernel
theorem dX4_byteTotal_4 : decode cX4_byteTotal 4 = .ok (.iload_n 3, 1) := by decide +kernel
theorem dX4_byteTotal_5 : decode cX4_byteTotal 5 = .ok (.aload_n 0, 1) := by decide +kernel
theorem dX4_byteTotal_6 : decode cX4_byteTotal 6 = .ok (.getfield 34, 3) := by decide +kernel
theorem dX4_byteTotal_9 : decode cX4_byteTotal 9 = .ok (.iload_n 1, 1) := by decide +kernel
theorem dX4_byteTotal_10 : decode cX4_byteTotal 10 = .ok (.iaload, 1) := by decide +kernel
theorem dX4_byteTotal_11 : decode cX4_byteTotal 11 = .ok (.if_icmp .ge 54, 3) := by decide +kernel
theorem dX4_byteTotal_14 : decode cX4_byteTotal 14 = .ok (.aload_n 0, 1) := by decide +kernel
theorem dX4_byteTotal_15 : decode cX4_byteTotal 15 = .ok (.iload_n 1, 1) := by decide +kernel
theorem dX4_byteTotal_16 : decode cX4_byteTotal 16 = .ok (.iload_n 3, 1) := by decide +kernel
theorem dX4_byteTotal_17 : decode cX4_byteTotal 17 = .ok (.invokevirtual 115, 3) := by decide +kernel
theorem dX4_byteTotal_20 : decode cX4_byteTotal 20 = .ok (.astore 4, 2) := by decide +kernel
theorem dX4_byteTotal_22 : decode cX4_byteTotal 22 = .ok (.iconst 0, 1) := by decide +kernel
theorem dX4_byteTotal_23 : decode cX4_byteTotal 23 = .ok (.istore 5, 2) := by decide +kernel
theorem dX4_byteTotal_25 : decode cX4_byteTotal 25 = .ok (.iload 5, 2) := by decide +kernel
theorem dX4_byteTotal_27 : decode cX4_byteTotal 27 = .ok (.aload 4, 2) := by decide +kernel
theorem dX4_byteTotal_29 : decode cX4_byteTotal 29 = .ok (.getfield 142, 3) := by decide +kernel
theorem dX4_byteTotal_32 : decode cX4_byteTotal 32 = .ok (.if_icmp .ge 27, 3) := by decide +kernel
theorem dX4_byteTotal_35 : decode cX4_byteTotal 35 = .ok (.iload_n 2, 1) := by decide +kernel
theorem dX4_byteTotal_36 : decode cX4_byteTotal 36 = .ok (.aload 4, 2) := by decide +kernel
theorem dX4_byteTotal_38 : decode cX4_byteTotal 38 = .ok (.getfield 145, 3) := by decide +kernel
theorem dX4_byteTotal_41 : decode cX4_byteTotal 41 = .ok (.aload 4, 2) := by decide +kernel
theorem dX4_byteTotal_43 : decode cX4_byteTotal 43 = .ok (.getfield 142, 3) := by decide +kernel
theorem dX4_byteTotal_46 : decode cX4_byteTotal 46 = .ok (.iload 5, 2) := by decide +kernel
theorem dX4_byteTotal_48 : decode cX4_byteTotal 48 = .ok (.invokestatic 149, 3) := by decide +kernel
theorem dX4_byteTotal_51 : decode cX4_byteTotal 51 = .ok (.iadd, 1) := by decide +kernel
theorem dX4_byteTotal_52 : decode cX4_byteTotal 52 = .ok (.istore_n 2, 1) := by decide +kernel
theorem dX4_byteTotal_53 : decode cX4_byteTotal 53 = .ok (.iinc 5 1, 3) := by decide +kernel
theorem dX4_byteTotal_56 : decode cX4_byteTotal 56 = .ok (.goto (-31), 3) := by decide +kernel
theorem dX4_byteTotal_59 : decode cX4_byteTotal 59 = .ok (.iinc 3 1, 3) := by decide +kernel
theorem dX4_byteTotal_62 : decode cX4_byteTotal 62 = .ok (.goto (-58), 3) := by decide +kernel
theorem dX4_byteTotal_65 : decode cX4_byteTotal 65 = .ok (.iload_n 2, 1) := by decide +kernel
theorem dX4_byteTotal_66 : decode cX4_byteTotal 66 = .ok (.ireturn, 1) := by decide +kernel
end
section
theorem dX5_init_0 : decode cX5_init 0 = .ok (.aload_n 0, 1) := by decide +kernel
theorem dX5_init_1 : decode cX5_init 1 = .ok (.invokespecial 3, 3) := by decide +kernel
theorem dX5_init_4 : decode cX5_init 4 = .ok (.aload_n 0, 1) := by decide +kernel
theorem dX5_init_5 : decode cX5_init 5 = .ok (.new 9, 3) := by decide +kernel
theorem dX5_init_8 : decode cX5_init 8 = .ok (.dup, 1) := by decide +kernel
theorem dX5_init_9 : decode cX5_init 9 = .ok (.invokespecial 11, 3) := by decide +kernel
theorem dX5_init_12 : decode cX5_init 12 = .ok (.putfield 12, 3) := by decide +kernel
theorem dX5_init_15 : decode cX5_init 15 = .ok (.aload_n 0, 1) := by decide +kernel
theorem dX5_init_16 : decode cX5_init 16 = .ok (.new 16, 3) := by decide +kernel
theorem dX5_init_19 : decode cX5_init 19 = .ok (.dup, 1) := by decide +kernel
theorem dX5_init_20 : decode cX5_init 20 = .ok (.aload_n 0, 1) := by decide +kernel
theorem dX5_init_21 : decode cX5_init 21 = .ok (.getfield 12, 3) := by decide +kernel
theorem dX5_init_24 : decode cX5_init 24 = .ok (.invokespecial 18, 3) := by decide +kernel
theorem dX5_init_27 : decode cX5_init 27 = .ok (.putfield 21, 3) := by decide +kernel
theorem dX5_init_30 : decode cX5_init 30 = .ok (.aload_n 0, 1) := by decide +kernel
theorem dX5_init_31 : decode cX5_init 31 = .ok (.iconst 4, 1) := by decide +kernel
theorem dX5_init_32 : decode cX5_init 32 = .ok (.anewarray 25, 3) := by decide +kernel
theorem dX5_init_35 : decode cX5_init 35 = .ok (.putfield 27, 3) := by decide +kernel
theorem dX5_init_38 : decode cX5_init 38 = .ok (.iconst 0, 1) := by decide +kernel
theorem dX5_init_39 : decode cX5_init 39 = .ok (.istore_n 1, 1) := by decide +kernel
theorem dX5_init_40 : decode cX5_init 40 = .ok (.iload_n 1, 1) := by decide +kernel
theorem dX5_init_41 : decode cX5_init 41 = .ok (.iconst 4, 1) := by decide +kernel
theorem dX5_init_42 : decode cX5_init 42 = .ok (.if_icmp .ge 25, 3) := by decide +kernel
theorem dX5_init_45 : decode cX5_init 45 = .ok (.aload_n 0, 1) := by decide +kernel
theorem dX5_init_46 : decode cX5_init 46 = .ok (.getfield 27, 3) := by decide +kernel
theorem dX5_init_49 : decode cX5_init 49 = .ok (.iload_n 1, 1) := by decide +kernel
theorem dX5_init_50 : decode cX5_init 50 = .ok (.new 25, 3) := by decide +kernel
theorem dX5_init_53 : decode cX5_init 53 = .ok (.dup, 1) := by decide +kernel
theorem dX5_init_54 : decode cX5_init 54 = .ok (.sipush 200, 3) := by decide +kernel
theorem dX5_init_57 : decode cX5_init 57 = .ok (.invokespecial 31, 3) := by decide +kernel
theorem dX5_init_60 : decode cX5_init 60 = .ok (.aastore, 1) := by decide +kernel
theorem dX5_init_61 : decode cX5_init 61 = .ok (.iinc 1 1, 3) := by decide +kernel
theorem dX5_init_64 : decode cX5_init 64 = .ok (.goto (-24), 3) := by decide +kernel
theorem dX5_init_67 : decode cX5_init 67 = .ok (.aload_n 0, 1) := by decide +kernel
theorem dX5_init_68 : decode cX5_init 68 = .ok (.new 25, 3) := by decide +kernel
theorem dX5_init_71 : decode cX5_init 71 = .ok (.dup, 1) := by decide +kernel
theorem dX5_init_72 : decode cX5_init 72 = .ok (.bipush 32, 2) := by decide +kernel
theorem dX5_init_74 : decode cX5_init 74 = .ok (.invokespecial 31, 3) := by decide +kernel
theorem dX5_init_77 : decode cX5_init 77 = .ok (.putfield 34, 3) := by decide +kernel
theorem dX5_init_80 : decode cX5_init 80 = .ok (.aload_n 0, 1) := by decide +kernel
theorem dX5_init_81 : decode cX5_init 81 = .ok (.new 25, 3) := by decide +kernel
theorem dX5_init_84 : decode cX5_init 84 = .ok (.dup, 1) := by decide +kernel
theorem dX5_init_85 : decode cX5_init 85 = .ok (.sipush 384, 3) := by decide +kernel
theorem dX5_init_88 : decode cX5_init 88 = .ok (.invokespecial 31, 3) := by decide +kernel
theorem dX5_init_91 : decode cX5_init 91 = .ok (.putfield 38, 3) := by decide +kernel
theorem dX5_init_94 : decode cX5_init 94 = .ok (.aload_n 0, 1) := by decide +kernel
theorem dX5_init_95 : decode cX5_init 95 = .ok (.iconst 4, 1) := by decide +kernel
theorem dX5_init_96 : decode cX5_init 96 = .ok (.newarray .int, 2) := by decide +kernel
theorem dX5_init_98 : decode cX5_init 98 = .ok (.putfield 41, 3) := by decide +kernel
theorem dX5_init_101 : decode cX5_init 101 = .ok (.aload_n 0, 1) := by decide +kernel
theorem dX5_init_102 : decode cX5_init 102 = .ok (.new 45, 3) := by decide +kernel
theorem dX5_init_105 : decode cX5_init 105 = .ok (.dup, 1) := by decide +kernel
theorem dX5_init_106 : decode cX5_init 106 = .ok (.invokespecial 47, 3) := by decide +kernel
theorem dX5_init_109 : decode cX5_init 109 = .ok (.putfield 48, 3) := by decide +kernel
theorem dX5_init_112 : decode cX5_init 112 = .ok (.aload_n 0, 1) := by decide +kernel
theorem dX5_init_113 : decode cX5_init 113 = .ok (.iconst 2, 1) := by decide +kernel
theorem dX5_init_114 : decode cX5_init 114 = .ok (.invokevirtual 52, 3) := by decide +kernel
theorem dX5_init_117 : decode cX5_init 117 = .ok (.return_, 1) := by decide +kernel
theorem dX5_machines_0 : decode cX5_machines 0 = .ok (.iload_n 1, 1) := by decide +kernel
theorem dX5_machines_1 : decode cX5_machines 1 = .ok (.iconst 1, 1) := by decide +kernel
theorem dX5_machines_2 : decode cX5_machines 2 = .ok (.if_icmp .lt 8, 3) := by decide +kernel
theorem dX5_machines_5 : decode cX5_machines 5 = .ok (.iload_n 1, 1) := by decide +kernel
theorem dX5_machines_6 : decode cX5_machines 6 = .ok (.iconst 4, 1) := by decide +kernel
theorem dX5_machines_7 : decode cX5_machines 7 = .ok (.if_icmp .le 5, 3) := by decide +kernel
theorem dX5_machines_10 : decode cX5_machines 10 = .ok (.iconst (-1), 1) := by decide +kernel
theorem dX5_machines_11 : decode cX5_machines 11 = .ok (.ireturn, 1) := by decide +kernel
theorem dX5_machines_12 : decode cX5_machines 12 = .ok (.aload_n 0, 1) := by decide +kernel
theorem dX5_machines_13 : decode cX5_machines 13 = .ok (.getfield 55, 3) := by decide +kernel
theorem dX5_machines_16 : decode cX5_machines 16 = .ok (.istore_n 2, 1) := by decide +kernel
theorem dX5_machines_17 : decode cX5_machines 17 = .ok (.aload_n 0, 1) := by decide +kernel
theorem dX5_machines_18 : decode cX5_machines 18 = .ok (.iload_n 1, 1) := by decide +kernel
theorem dX5_machines_19 : decode cX5_machines 19 = .ok (.invokevirtual 52, 3) := by decide +kernel
theorem dX5_machines_22 : decode cX5_machines 22 = .ok (.iload_n 2, 1) := by decide +kernel
theorem dX5_machines_23 : decode cX5_machines 23 = .ok (.ireturn, 1) := by decide +kernel
theorem dX5_rules_0 : decode cX5_rules 0 = .ok (.iload_n 1, 1) := by decide +kernel
theorem dX5_rules_1 : decode cX5_rules 1 = .ok (.ifCond .lt 8, 3) := by decide +kernel
theorem dX5_rules_4 : decode cX5_rules 4 = .ok (.iload_n 1, 1) := by decide +kernel
theorem dX5_rules_5 : decode cX5_rules 5 = .ok (.iconst 3, 1) := by decide +kernel
theorem dX5_rules_6 : decode cX5_rules 6 = .ok (.if_icmp .le 5, 3) := by decide +kernel
theorem dX5_rules_9 : decode cX5_rules 9 = .ok (.iconst (-1), 1) := by decide +kernel
theorem dX5_rules_10 : decode cX5_rules 10 = .ok (.ireturn, 1) := by decide +kernel
theorem dX5_rules_11 : decode cX5_rules 11 = .ok (.aload_n 0, 1) := by decide +kernel
theorem dX5_rules_12 : decode cX5_rules 12 = .ok (.getfield 59, 3) := by decide +kernel
theorem dX5_rules_15 : decode cX5_rules 15 = .ok (.istore_n 2, 1) := by decide +kernel
theorem dX5_rules_16 : decode cX5_rules 16 = .ok (.aload_n 0, 1) := by decide +kernel
theorem dX5_rules_17 : decode cX5_rules 17 = .ok (.iload_n 1, 1) := by decide +kernel
theorem dX5_rules_18 : decode cX5_rules 18 = .ok (.putfield 59, 3) := by decide +kernel
theorem dX5_rules_21 : decode cX5_rules 21 = .ok (.iload_n 2, 1) := by decide +kernel
theorem dX5_rules_22 : decode cX5_rules 22 = .ok (.ireturn, 1) := by decide +kernel
theorem dX5_make_0 : decode cX5_make 0 = .ok (.aload_n 0, 1) := by decide +kernel
theorem dX5_make_1 : decode cX5_make 1 = .ok (.iload_n 1, 1) := by decide +kernel
theorem dX5_make_2 : decode cX5_make 2 = .ok (.invokevirtual 62, 3) := by decide +kernel
theorem dX5_make_5 : decode cX5_make 5 = .ok (.ifCond .eq 28, 3) := by decide +kernel
theorem dX5_make_8 : decode cX5_make 8 = .ok (.iload_n 2, 1) := by decide +kernel
theorem dX5_make_9 : decode cX5_make 9 = .ok (.iconst 1, 1) := by decide +kernel
theorem dX5_make_10 : decode cX5_make 10 = .ok (.if_icmp .eq 8, 3) := by decide +kernel
theorem dX5_make_13 : decode cX5_make 13 = .ok (.iload_n 2, 1) := by decide +kernel
theorem dX5_make_14 : decode cX5_make 14 = .ok (.iconst 2, 1) := by decide +kernel
theorem dX5_make_15 : decode cX5_make 15 = .ok (.if_icmp .ne 18, 3) := by decide +kernel
theorem dX5_make_18 : decode cX5_make 18 = .ok (.iload_n 3, 1) := by decide +kernel
theorem dX5_make_19 : decode cX5_make 19 = .ok (.invokestatic 66, 3) := by decide +kernel
theorem dX5_make_22 : decode cX5_make 22 = .ok (.ifCond .eq 11, 3) := by decide +kernel
theorem dX5_make_25 : decode cX5_make 25 = .ok (.iload 4, 2) := by decide +kernel
theorem dX5_make_27 : decode cX5_make 27 = .ok (.invokestatic 69, 3) := by decide +kernel
theorem dX5_make_30 : decode cX5_make 30 = .ok (.ifCond .ne 5, 3) := by decide +kernel
theorem dX5_make_33 : decode cX5_make 33 = .ok (.iconst (-1), 1) := by decide +kernel
theorem dX5_make_34 : decode cX5_make 34 = .ok (.ireturn, 1) := by decide +kernel
theorem dX5_make_35 : decode cX5_make 35 = .ok (.aload_n 0, 1) := by decide +kernel
theorem dX5_make_36 : decode cX5_make 36 = .ok (.iload_n 1, 1) := by decide +kernel
theorem dX5_make_37 : decode cX5_make 37 = .ok (.invokevirtual 72, 3) := by decide +kernel
theorem dX5_make_40 : decode cX5_make 40 = .ok (.aload_n 0, 1) := by decide +kernel
theorem dX5_make_41 : decode cX5_make 41 = .ok (.getfield 21, 3) := by decide +kernel
theorem dX5_make_44 : decode cX5_make 44 = .ok (.iload_n 3, 1) := by decide +kernel
theorem dX5_make_45 : decode cX5_make 45 = .ok (.invokevirtual 75, 3) := by decide +kernel
theorem dX5_make_48 : decode cX5_make 48 = .ok (.ifCond .ne 6, 3) := by decide +kernel
theorem dX5_make_51 : decode cX5_make 51 = .ok (.bipush (-2), 2) := by decide +kernel
theorem dX5_make_53 : decode cX5_make 53 = .ok (.ireturn, 1) := by decide +kernel
theorem dX5_make_54 : decode cX5_make 54 = .ok (.aload_n 0, 1) := by decide +kernel
theorem dX5_make_55 : decode cX5_make 55 = .ok (.getfield 12, 3) := by decide +kernel
theorem dX5_make_58 : decode cX5_make 58 = .ok (.iload_n 1, 1) := by decide +kernel
theorem dX5_make_59 : decode cX5_make 59 = .ok (.invokevirtual 78, 3) := by decide +kernel
theorem dX5_make_62 : decode cX5_make 62 = .ok (.istore 5, 2) := by decide +kernel
theorem dX5_make_64 : decode cX5_make 64 = .ok (.iload 5, 2) := by decide +kernel
theorem dX5_make_66 : decode cX5_make 66 = .ok (.bipush 12, 2) := by decide +kernel
theorem dX5_make_68 : decode cX5_make 68 = .ok (.if_icmp .ge 14, 3) := by decide +kernel
theorem dX5_make_71 : decode cX5_make 71 = .ok (.aload_n 0, 1) := by decide +kernel
theorem dX5_make_72 : decode cX5_make 72 = .ok (.getfield 12, 3) := by decide +kernel
theorem dX5_make_75 : decode cX5_make 75 = .ok (.iload_n 1, 1) := by decide +kernel
theorem dX5_make_76 : decode cX5_make 76 = .ok (.invokevirtual 82, 3) := by decide +kernel
theorem dX5_make_79 : decode cX5_make 79 = .ok (.ifCond .eq 6, 3) := by decide +kernel
theorem dX5_make_82 : decode cX5_make 82 = .ok (.bipush (-3), 2) := by decide +kernel
theorem dX5_make_84 : decode cX5_make 84 = .ok (.ireturn, 1) := by decide +kernel
theorem dX5_make_85 : decode cX5_make 85 = .ok (.aload_n 0, 1) := by decide +kernel
theorem dX5_make_86 : decode cX5_make 86 = .ok (.getfield 12, 3) := by decide +kernel
theorem dX5_make_89 : decode cX5_make 89 = .ok (.iload_n 1, 1) := by decide +kernel
theorem dX5_make_90 : decode cX5_make 90 = .ok (.iconst 0, 1) := by decide +kernel
theorem dX5_make_91 : decode cX5_make 91 = .ok (.iload 5, 2) := by decide +kernel
theorem dX5_make_93 : decode cX5_make 93 = .ok (.invokevirtual 85, 3) := by decide +kernel
theorem dX5_make_96 : decode cX5_make 96 = .ok (.astore 6, 2) := by decide +kernel
theorem dX5_make_98 : decode cX5_make 98 = .ok (.aload 6, 2) := by decide +kernel
theorem dX5_make_100 : decode cX5_make 100 = .ok (.iload_n 2, 1) := by decide +kernel
theorem dX5_make_101 : decode cX5_make 101 = .ok (.putfield 89, 3) := by decide +kernel
theorem dX5_make_104 : decode cX5_make 104 = .ok (.aload 6, 2) := by decide +kernel
theorem dX5_make_106 : decode cX5_make 106 = .ok (.iload_n 3, 1) := by decide +kernel
theorem dX5_make_107 : decode cX5_make 107 = .ok (.putfield 94, 3) := by decide +kernel
theorem dX5_make_110 : decode cX5_make 110 = .ok (.aload 6, 2) := by decide +kernel
theorem dX5_make_112 : decode cX5_make 112 = .ok (.iload 4, 2) := by decide +kernel
theorem dX5_make_114 : decode cX5_make 114 = .ok (.putfield 97, 3) := by decide +kernel
theorem dX5_make_117 : decode cX5_make 117 = .ok (.iload 5, 2) := by decide +kernel
theorem dX5_make_119 : decode cX5_make 119 = .ok (.ireturn, 1) := by decide +kernel
theorem dX5_move_0 : decode cX5_move 0 = .ok (.aload_n 0, 1) := by decide +kernel
theorem dX5_move_1 : decode cX5_move 1 = .ok (.iload_n 1, 1) := by decide +kernel
theorem dX5_move_2 : decode cX5_move 2 = .ok (.invokevirtual 62, 3) := by decide +kernel
theorem dX5_move_5 : decode cX5_move 5 = .ok (.ifCond .eq 25, 3) := by decide +kernel
theorem dX5_move_8 : decode cX5_move 8 = .ok (.iload_n 2, 1) := by decide +kernel
theorem dX5_move_9 : decode cX5_move 9 = .ok (.invokestatic 66, 3) := by decide +kernel
theorem dX5_move_12 : decode cX5_move 12 = .ok (.ifCond .eq 18, 3) := by decide +kernel
theorem dX5_move_15 : decode cX5_move 15 = .ok (.iload_n 3, 1) := by decide +kernel
theorem dX5_move_16 : decode cX5_move 16 = .ok (.invokestatic 66, 3) := by decide +kernel
theorem dX5_move_19 : decode cX5_move 19 = .ok (.ifCond .eq 11, 3) := by decide +kernel
theorem dX5_move_22 : decode cX5_move 22 = .ok (.iload 4, 2) := by decide +kernel
theorem dX5_move_24 : decode cX5_move 24 = .ok (.invokestatic 69, 3) := by decide +kernel
theorem dX5_move_27 : decode cX5_move 27 = .ok (.ifCond .ne 5, 3) := by decide +kernel
theorem dX5_move_30 : decode cX5_move 30 = .ok (.iconst (-1), 1) := by decide +kernel
theorem dX5_move_31 : decode cX5_move 31 = .ok (.ireturn, 1) := by decide +kernel
theorem dX5_move_32 : decode cX5_move 32 = .ok (.aload_n 0, 1) := by decide +kernel
theorem dX5_move_33 : decode cX5_move 33 = .ok (.iload_n 1, 1) := by decide +kernel
theorem dX5_move_34 : decode cX5_move 34 = .ok (.invokevirtual 72, 3) := by decide +kernel
theorem dX5_move_37 : decode cX5_move 37 = .ok (.aload_n 0, 1) := by decide +kernel
theorem dX5_move_38 : decode cX5_move 38 = .ok (.getfield 21, 3) := by decide +kernel
theorem dX5_move_41 : decode cX5_move 41 = .ok (.iload_n 2, 1) := by decide +kernel
theorem dX5_move_42 : decode cX5_move 42 = .ok (.iload_n 3, 1) := by decide +kernel
theorem dX5_move_43 : decode cX5_move 43 = .ok (.invokevirtual 100, 3) := by decide +kernel
theorem dX5_move_46 : decode cX5_move 46 = .ok (.ifCond .ne 6, 3) := by decide +kernel
theorem dX5_move_49 : decode cX5_move 49 = .ok (.bipush (-2), 2) := by decide +kernel
theorem dX5_move_51 : decode cX5_move 51 = .ok (.ireturn, 1) := by decide +kernel
theorem dX5_move_52 : decode cX5_move 52 = .ok (.aload_n 0, 1) := by decide +kernel
theorem dX5_move_53 : decode cX5_move 53 = .ok (.getfield 12, 3) := by decide +kernel
theorem dX5_move_56 : decode cX5_move 56 = .ok (.iload_n 1, 1) := by decide +kernel
theorem dX5_move_57 : decode cX5_move 57 = .ok (.invokevirtual 82, 3) := by decide +kernel
theorem dX5_move_60 : decode cX5_move 60 = .ok (.ifCond .eq 6, 3) := by decide +kernel
theorem dX5_move_63 : decode cX5_move 63 = .ok (.bipush (-3), 2) := by decide +kernel
theorem dX5_move_65 : decode cX5_move 65 = .ok (.ireturn, 1) := by decide +kernel
theorem dX5_move_66 : decode cX5_move 66 = .ok (.aload_n 0, 1) := by decide +kernel
theorem dX5_move_67 : decode cX5_move 67 = .ok (.getfield 12, 3) := by decide +kernel
theorem dX5_move_70 : decode cX5_move 70 = .ok (.iload_n 1, 1) := by decide +kernel
theorem dX5_move_71 : decode cX5_move 71 = .ok (.iconst 1, 1) := by decide +kernel
theorem dX5_move_72 : decode cX5_move 72 = .ok (.iload_n 2, 1) := by decide +kernel
theorem dX5_move_73 : decode cX5_move 73 = .ok (.invokevirtual 85, 3) := by decide +kernel
theorem dX5_move_76 : decode cX5_move 76 = .ok (.astore 5, 2) := by decide +kernel
theorem dX5_move_78 : decode cX5_move 78 = .ok (.aload 5, 2) := by decide +kernel
theorem dX5_move_80 : decode cX5_move 80 = .ok (.iload_n 3, 1) := by decide +kernel
theorem dX5_move_81 : decode cX5_move 81 = .ok (.putfield 94, 3) := by decide +kernel
theorem dX5_move_84 : decode cX5_move 84 = .ok (.aload 5, 2) := by decide +kernel
theorem dX5_move_86 : decode cX5_move 86 = .ok (.iload 4, 2) := by decide +kernel
theorem dX5_move_88 : decode cX5_move 88 = .ok (.putfield 97, 3) := by decide +kernel
theorem dX5_move_91 : decode cX5_move 91 = .ok (.aload 5, 2) := by decide +kernel
theorem dX5_move_93 : decode cX5_move 93 = .ok (.getfield 104, 3) := by decide +kernel
theorem dX5_move_96 : decode cX5_move 96 = .ok (.ireturn, 1) := by decide +kernel
theorem dX5_gone_0 : decode cX5_gone 0 = .ok (.aload_n 0, 1) := by decide +kernel
theorem dX5_gone_1 : decode cX5_gone 1 = .ok (.iload_n 1, 1) := by decide +kernel
theorem dX5_gone_2 : decode cX5_gone 2 = .ok (.invokevirtual 62, 3) := by decide +kernel
theorem dX5_gone_5 : decode cX5_gone 5 = .ok (.ifCond .eq 10, 3) := by decide +kernel
theorem dX5_gone_8 : decode cX5_gone 8 = .ok (.iload_n 2, 1) := by decide +kernel
theorem dX5_gone_9 : decode cX5_gone 9 = .ok (.invokestatic 66, 3) := by decide +kernel
theorem dX5_gone_12 : decode cX5_gone 12 = .ok (.ifCond .ne 5, 3) := by decide +kernel
theorem dX5_gone_15 : decode cX5_gone 15 = .ok (.iconst (-1), 1) := by decide +kernel
theorem dX5_gone_16 : decode cX5_gone 16 = .ok (.ireturn, 1) := by decide +kernel
theorem dX5_gone_17 : decode cX5_gone 17 = .ok (.aload_n 0, 1) := by decide +kernel
theorem dX5_gone_18 : decode cX5_gone 18 = .ok (.iload_n 1, 1) := by decide +kernel
theorem dX5_gone_19 : decode cX5_gone 19 = .ok (.invokevirtual 72, 3) := by decide +kernel
theorem dX5_gone_22 : decode cX5_gone 22 = .ok (.iload_n 2, 1) := by decide +kernel
theorem dX5_gone_23 : decode cX5_gone 23 = .ok (.ifCond .eq 14, 3) := by decide +kernel
theorem dX5_gone_26 : decode cX5_gone 26 = .ok (.aload_n 0, 1) := by decide +kernel
theorem dX5_gone_27 : decode cX5_gone 27 = .ok (.getfield 21, 3) := by decide +kernel
theorem dX5_gone_30 : decode cX5_gone 30 = .ok (.iload_n 2, 1) := by decide +kernel
theorem dX5_gone_31 : decode cX5_gone 31 = .ok (.invokevirtual 107, 3) := by decide +kernel
theorem dX5_gone_34 : decode cX5_gone 34 = .ok (.ifCond .ne 6, 3) := by decide +kernel
theorem dX5_gone_37 : decode cX5_gone 37 = .ok (.bipush (-2), 2) := by decide +kernel
theorem dX5_gone_39 : decode cX5_gone 39 = .ok (.ireturn, 1) := by decide +kernel
theorem dX5_gone_40 : decode cX5_gone 40 = .ok (.aload_n 0, 1) := by decide +kernel
theorem dX5_gone_41 : decode cX5_gone 41 = .ok (.getfield 12, 3) := by decide +kernel
theorem dX5_gone_44 : decode cX5_gone 44 = .ok (.iload_n 1, 1) := by decide +kernel
theorem dX5_gone_45 : decode cX5_gone 45 = .ok (.invokevirtual 82, 3) := by decide +kernel
theorem dX5_gone_48 : decode cX5_gone 48 = .ok (.ifCond .eq 6, 3) := by decide +kernel
theorem dX5_gone_51 : decode cX5_gone 51 = .ok (.bipush (-3), 2) := by decide +kernel
theorem dX5_gone_53 : decode cX5_gone 53 = .ok (.ireturn, 1) := by decide +kernel
theorem dX5_gone_54 : decode cX5_gone 54 = .ok (.aload_n 0, 1) := by decide +kernel
theorem dX5_gone_55 : decode cX5_gone 55 = .ok (.getfield 12, 3) := by decide +kernel
theorem dX5_gone_58 : decode cX5_gone 58 = .ok (.iload_n 1, 1) := by decide +kernel
theorem dX5_gone_59 : decode cX5_gone 59 = .ok (.iconst 2, 1) := by decide +kernel
theorem dX5_gone_60 : decode cX5_gone 60 = .ok (.iload_n 2, 1) := by decide +kernel
theorem dX5_gone_61 : decode cX5_gone 61 = .ok (.invokevirtual 85, 3) := by decide +kernel
theorem dX5_gone_64 : decode cX5_gone 64 = .ok (.getfield 104, 3) := by decide +kernel
theorem dX5_gone_67 : decode cX5_gone 67 = .ok (.ireturn, 1) := by decide +kernel
theorem dX5_write_0 : decode cX5_write 0 = .ok (.aload_n 0, 1) := by decide +kernel
theorem dX5_write_1 : decode cX5_write 1 = .ok (.iload_n 1, 1) := by decide +kernel
theorem dX5_write_2 : decode cX5_write 2 = .ok (.invokevirtual 62, 3) := by decide +kernel
theorem dX5_write_5 : decode cX5_write 5 = .ok (.ifCond .eq 22, 3) := by decide +kernel
theorem dX5_write_8 : decode cX5_write 8 = .ok (.iload_n 2, 1) := by decide +kernel
theorem dX5_write_9 : decode cX5_write 9 = .ok (.invokestatic 66, 3) := by decide +kernel
theorem dX5_write_12 : decode cX5_write 12 = .ok (.ifCond .eq 15, 3) := by decide +kernel
theorem dX5_write_15 : decode cX5_write 15 = .ok (.iload 5, 2) := by decide +kernel
theorem dX5_write_17 : decode cX5_write 17 = .ok (.ifCond .lt 10, 3) := by decide +kernel
theorem dX5_write_20 : decode cX5_write 20 = .ok (.iload 5, 2) := by decide +kernel
theorem dX5_write_22 : decode cX5_write 22 = .ok (.bipush 8, 2) := by decide +kernel
theorem dX5_write_24 : decode cX5_write 24 = .ok (.if_icmp .le 5, 3) := by decide +kernel
theorem dX5_write_27 : decode cX5_write 27 = .ok (.iconst (-1), 1) := by decide +kernel
theorem dX5_write_28 : decode cX5_write 28 = .ok (.ireturn, 1) := by decide +kernel
theorem dX5_write_29 : decode cX5_write 29 = .ok (.aload_n 0, 1) := by decide +kernel
theorem dX5_write_30 : decode cX5_write 30 = .ok (.iload_n 1, 1) := by decide +kernel
theorem dX5_write_31 : decode cX5_write 31 = .ok (.invokevirtual 72, 3) := by decide +kernel
theorem dX5_write_34 : decode cX5_write 34 = .ok (.aload_n 0, 1) := by decide +kernel
theorem dX5_write_35 : decode cX5_write 35 = .ok (.getfield 21, 3) := by decide +kernel
theorem dX5_write_38 : decode cX5_write 38 = .ok (.iload_n 2, 1) := by decide +kernel
theorem dX5_write_39 : decode cX5_write 39 = .ok (.invokevirtual 110, 3) := by decide +kernel
theorem dX5_write_42 : decode cX5_write 42 = .ok (.ifCond .ne 6, 3) := by decide +kernel
theorem dX5_write_45 : decode cX5_write 45 = .ok (.bipush (-2), 2) := by decide +kernel
theorem dX5_write_47 : decode cX5_write 47 = .ok (.ireturn, 1) := by decide +kernel
theorem dX5_write_48 : decode cX5_write 48 = .ok (.aload_n 0, 1) := by decide +kernel
theorem dX5_write_49 : decode cX5_write 49 = .ok (.getfield 34, 3) := by decide +kernel
theorem dX5_write_52 : decode cX5_write 52 = .ok (.invokevirtual 113, 3) := by decide +kernel
theorem dX5_write_55 : decode cX5_write 55 = .ok (.aload_n 0, 1) := by decide +kernel
theorem dX5_write_56 : decode cX5_write 56 = .ok (.getfield 34, 3) := by decide +kernel
theorem dX5_write_59 : decode cX5_write 59 = .ok (.lload_n 3, 1) := by decide +kernel
theorem dX5_write_60 : decode cX5_write 60 = .ok (.iload 5, 2) := by decide +kernel
theorem dX5_write_62 : decode cX5_write 62 = .ok (.invokevirtual 116, 3) := by decide +kernel
theorem dX5_write_65 : decode cX5_write 65 = .ok (.aload_n 0, 1) := by decide +kernel
theorem dX5_write_66 : decode cX5_write 66 = .ok (.iload_n 1, 1) := by decide +kernel
theorem dX5_write_67 : decode cX5_write 67 = .ok (.invokevirtual 120, 3) := by decide +kernel
theorem dX5_write_70 : decode cX5_write 70 = .ok (.ifCond .ne 6, 3) := by decide +kernel
theorem dX5_write_73 : decode cX5_write 73 = .ok (.bipush (-2), 2) := by decide +kernel
theorem dX5_write_75 : decode cX5_write 75 = .ok (.ireturn, 1) := by decide +kernel
theorem dX5_write_76 : decode cX5_write 76 = .ok (.aload_n 0, 1) := by decide +kernel
theorem dX5_write_77 : decode cX5_write 77 = .ok (.getfield 12, 3) := by decide +kernel
theorem dX5_write_80 : decode cX5_write 80 = .ok (.iload_n 1, 1) := by decide +kernel
theorem dX5_write_81 : decode cX5_write 81 = .ok (.invokevirtual 82, 3) := by decide +kernel
theorem dX5_write_84 : decode cX5_write 84 = .ok (.ifCond .eq 6, 3) := by decide +kernel
theorem dX5_write_87 : decode cX5_write 87 = .ok (.bipush (-3), 2) := by decide +kernel
theorem dX5_write_89 : decode cX5_write 89 = .ok (.ireturn, 1) := by decide +kernel
theorem dX5_write_90 : decode cX5_write 90 = .ok (.aload_n 0, 1) := by decide +kernel
theorem dX5_write_91 : decode cX5_write 91 = .ok (.getfield 12, 3) := by decide +kernel
theorem dX5_write_94 : decode cX5_write 94 = .ok (.iload_n 1, 1) := by decide +kernel
theorem dX5_write_95 : decode cX5_write 95 = .ok (.iconst 3, 1) := by decide +kernel
theorem dX5_write_96 : decode cX5_write 96 = .ok (.iload_n 2, 1) := by decide +kernel
theorem dX5_write_97 : decode cX5_write 97 = .ok (.invokevirtual 85, 3) := by decide +kernel
theorem dX5_write_100 : decode cX5_write 100 = .ok (.astore 6, 2) := by decide +kernel
theorem dX5_write_102 : decode cX5_write 102 = .ok (.aload 6, 2) := by decide +kernel
theorem dX5_write_104 : decode cX5_write 104 = .ok (.lload_n 3, 1) := by decide +kernel
theorem dX5_write_105 : decode cX5_write 105 = .ok (.putfield 123, 3) := by decide +kernel
theorem dX5_write_108 : decode cX5_write 108 = .ok (.aload 6, 2) := by decide +kernel
theorem dX5_write_110 : decode cX5_write 110 = .ok (.iload 5, 2) := by decide +kernel
theorem dX5_write_112 : decode cX5_write 112 = .ok (.putfield 127, 3) := by decide +kernel
theorem dX5_write_115 : decode cX5_write 115 = .ok (.aload_n 0, 1) := by decide +kernel
theorem dX5_write_116 : decode cX5_write 116 = .ok (.getfield 27, 3) := by decide +kernel
theorem dX5_write_119 : decode cX5_write 119 = .ok (.iload_n 1, 1) := by decide +kernel
theorem dX5_write_120 : decode cX5_write 120 = .ok (.aaload, 1) := by decide +kernel
theorem dX5_write_121 : decode cX5_write 121 = .ok (.aload_n 0, 1) := by decide +kernel
theorem dX5_write_122 : decode cX5_write 122 = .ok (.getfield 34, 3) := by decide +kernel
theorem dX5_write_125 : decode cX5_write 125 = .ok (.invokevirtual 130, 3) := by decide +kernel
theorem dX5_write_128 : decode cX5_write 128 = .ok (.aload 6, 2) := by decide +kernel
theorem dX5_write_130 : decode cX5_write 130 = .ok (.getfield 104, 3) := by decide +kernel
theorem dX5_write_133 : decode cX5_write 133 = .ok (.ireturn, 1) := by decide +kernel
theorem dX5_send_0 : decode cX5_send 0 = .ok (.aload_n 0, 1) := by decide +kernel
theorem dX5_send_1 : decode cX5_send 1 = .ok (.iload_n 1, 1) := by decide +kernel
theorem dX5_send_2 : decode cX5_send 2 = .ok (.invokevirtual 62, 3) := by decide +kernel
theorem dX5_send_5 : decode cX5_send 5 = .ok (.ifCond .eq 16, 3) := by decide +kernel
theorem dX5_send_8 : decode cX5_send 8 = .ok (.aload_n 0, 1) := by decide +kernel
theorem dX5_send_9 : decode cX5_send 9 = .ok (.iload_n 2, 1) := by decide +kernel
theorem dX5_send_10 : decode cX5_send 10 = .ok (.invokevirtual 62, 3) := by decide +kernel
theorem dX5_send_13 : decode cX5_send 13 = .ok (.ifCond .eq 8, 3) := by decide +kernel
theorem dX5_send_16 : decode cX5_send 16 = .ok (.iload_n 1, 1) := by decide +kernel
theorem dX5_send_17 : decode cX5_send 17 = .ok (.iload_n 2, 1) := by decide +kernel
theorem dX5_send_18 : decode cX5_send 18 = .ok (.if_icmp .ne 5, 3) := by decide +kernel
theorem dX5_send_21 : decode cX5_send 21 = .ok (.iconst (-1), 1) := by decide +kernel
theorem dX5_send_22 : decode cX5_send 22 = .ok (.ireturn, 1) := by decide +kernel
theorem dX5_send_23 : decode cX5_send 23 = .ok (.aload_n 0, 1) := by decide +kernel
theorem dX5_send_24 : decode cX5_send 24 = .ok (.getfield 12, 3) := by decide +kernel
theorem dX5_send_27 : decode cX5_send 27 = .ok (.iload_n 1, 1) := by decide +kernel
theorem dX5_send_28 : decode cX5_send 28 = .ok (.iload_n 2, 1) := by decide +kernel
theorem dX5_send_29 : decode cX5_send 29 = .ok (.bipush 80, 2) := by decide +kernel
theorem dX5_send_31 : decode cX5_send 31 = .ok (.invokevirtual 134, 3) := by decide +kernel
theorem dX5_send_34 : decode cX5_send 34 = .ok (.ireturn, 1) := by decide +kernel
theorem dX5_sendSome_0 : decode cX5_sendSome 0 = .ok (.aload_n 0, 1) := by decide +kernel
theorem dX5_sendSome_1 : decode cX5_sendSome 1 = .ok (.iload_n 1, 1) := by decide +kernel
theorem dX5_sendSome_2 : decode cX5_sendSome 2 = .ok (.invokevirtual 62, 3) := by decide +kernel
theorem dX5_sendSome_5 : decode cX5_sendSome 5 = .ok (.ifCond .eq 27, 3) := by decide +kernel
theorem dX5_sendSome_8 : decode cX5_sendSome 8 = .ok (.aload_n 0, 1) := by decide +kernel
theorem dX5_sendSome_9 : decode cX5_sendSome 9 = .ok (.iload_n 2, 1) := by decide +kernel
theorem dX5_sendSome_10 : decode cX5_sendSome 10 = .ok (.invokevirtual 62, 3) := by decide +kernel
theorem dX5_sendSome_13 : decode cX5_sendSome 13 = .ok (.ifCond .eq 19, 3) := by decide +kernel
theorem dX5_sendSome_16 : decode cX5_sendSome 16 = .ok (.iload_n 1, 1) := by decide +kernel
theorem dX5_sendSome_17 : decode cX5_sendSome 17 = .ok (.iload_n 2, 1) := by decide +kernel
theorem dX5_sendSome_18 : decode cX5_sendSome 18 = .ok (.if_icmp .eq 14, 3) := by decide +kernel
theorem dX5_sendSome_21 : decode cX5_sendSome 21 = .ok (.iload_n 3, 1) := by decide +kernel
theorem dX5_sendSome_22 : decode cX5_sendSome 22 = .ok (.iconst 1, 1) := by decide +kernel
theorem dX5_sendSome_23 : decode cX5_sendSome 23 = .ok (.if_icmp .lt 9, 3) := by decide +kernel
theorem dX5_sendSome_26 : decode cX5_sendSome 26 = .ok (.iload_n 3, 1) := by decide +kernel
theorem dX5_sendSome_27 : decode cX5_sendSome 27 = .ok (.bipush 20, 2) := by decide +kernel
theorem dX5_sendSome_29 : decode cX5_sendSome 29 = .ok (.if_icmp .le 5, 3) := by decide +kernel
theorem dX5_sendSome_32 : decode cX5_sendSome 32 = .ok (.iconst (-1), 1) := by decide +kernel
theorem dX5_sendSome_33 : decode cX5_sendSome 33 = .ok (.ireturn, 1) := by decide +kernel
theorem dX5_sendSome_34 : decode cX5_sendSome 34 = .ok (.aload_n 0, 1) := by decide +kernel
theorem dX5_sendSome_35 : decode cX5_sendSome 35 = .ok (.getfield 12, 3) := by decide +kernel
theorem dX5_sendSome_38 : decode cX5_sendSome 38 = .ok (.iload_n 1, 1) := by decide +kernel
theorem dX5_sendSome_39 : decode cX5_sendSome 39 = .ok (.iload_n 2, 1) := by decide +kernel
theorem dX5_sendSome_40 : decode cX5_sendSome 40 = .ok (.iload_n 3, 1) := by decide +kernel
theorem dX5_sendSome_41 : decode cX5_sendSome 41 = .ok (.invokevirtual 134, 3) := by decide +kernel
theorem dX5_sendSome_44 : decode cX5_sendSome 44 = .ok (.ireturn, 1) := by decide +kernel
theorem dX5_change_0 : decode cX5_change 0 = .ok (.aload_n 0, 1) := by decide +kernel
theorem dX5_change_1 : decode cX5_change 1 = .ok (.iload_n 1, 1) := by decide +kernel
theorem dX5_change_2 : decode cX5_change 2 = .ok (.invokevirtual 62, 3) := by decide +kernel
theorem dX5_change_5 : decode cX5_change 5 = .ok (.ifCond .eq 20, 3) := by decide +kernel
theorem dX5_change_8 : decode cX5_change 8 = .ok (.iload_n 2, 1) := by decide +kernel
theorem dX5_change_9 : decode cX5_change 9 = .ok (.ifCond .lt 16, 3) := by decide +kernel
theorem dX5_change_12 : decode cX5_change 12 = .ok (.iload_n 2, 1) := by decide +kernel
theorem dX5_change_13 : decode cX5_change 13 = .ok (.aload_n 0, 1) := by decide +kernel
theorem dX5_change_14 : decode cX5_change 14 = .ok (.getfield 12, 3) := by decide +kernel
theorem dX5_change_17 : decode cX5_change 17 = .ok (.getfield 138, 3) := by decide +kernel
theorem dX5_change_20 : decode cX5_change 20 = .ok (.iload_n 1, 1) := by decide +kernel
theorem dX5_change_21 : decode cX5_change 21 = .ok (.iaload, 1) := by decide +kernel
theorem dX5_change_22 : decode cX5_change 22 = .ok (.if_icmp .lt 5, 3) := by decide +kernel
theorem dX5_change_25 : decode cX5_change 25 = .ok (.iconst (-1), 1) := by decide +kernel
theorem dX5_change_26 : decode cX5_change 26 = .ok (.ireturn, 1) := by decide +kernel
theorem dX5_change_27 : decode cX5_change 27 = .ok (.aload_n 0, 1) := by decide +kernel
theorem dX5_change_28 : decode cX5_change 28 = .ok (.getfield 12, 3) := by decide +kernel
theorem dX5_change_31 : decode cX5_change 31 = .ok (.iload_n 1, 1) := by decide +kernel
theorem dX5_change_32 : decode cX5_change 32 = .ok (.iload_n 2, 1) := by decide +kernel
theorem dX5_change_33 : decode cX5_change 33 = .ok (.invokevirtual 141, 3) := by decide +kernel
theorem dX5_change_36 : decode cX5_change 36 = .ok (.astore 4, 2) := by decide +kernel
theorem dX5_change_38 : decode cX5_change 38 = .ok (.iload_n 3, 1) := by decide +kernel
theorem dX5_change_39 : decode cX5_change 39 = .ok (.tableswitch 85 0 5 #[37, 43, 49, 55, 61, 67], 37) := by decide +kernel
theorem dX5_change_76 : decode cX5_change 76 = .ok (.aload 4, 2) := by decide +kernel
theorem dX5_change_78 : decode cX5_change 78 = .ok (.getfield 145, 3) := by decide +kernel
theorem dX5_change_81 : decode cX5_change 81 = .ok (.ireturn, 1) := by decide +kernel
theorem dX5_change_82 : decode cX5_change 82 = .ok (.aload 4, 2) := by decide +kernel
theorem dX5_change_84 : decode cX5_change 84 = .ok (.getfield 148, 3) := by decide +kernel
theorem dX5_change_87 : decode cX5_change 87 = .ok (.ireturn, 1) := by decide +kernel
theorem dX5_change_88 : decode cX5_change 88 = .ok (.aload 4, 2) := by decide +kernel
theorem dX5_change_90 : decode cX5_change 90 = .ok (.getfield 151, 3) := by decide +kernel
theorem dX5_change_93 : decode cX5_change 93 = .ok (.ireturn, 1) := by decide +kernel
theorem dX5_change_94 : decode cX5_change 94 = .ok (.aload 4, 2) := by decide +kernel
theorem dX5_change_96 : decode cX5_change 96 = .ok (.invokevirtual 154, 3) := by decide +kernel
theorem dX5_change_99 : decode cX5_change 99 = .ok (.ireturn, 1) := by decide +kernel
theorem dX5_change_100 : decode cX5_change 100 = .ok (.aload 4, 2) := by decide +kernel
theorem dX5_change_102 : decode cX5_change 102 = .ok (.getfield 158, 3) := by decide +kernel
theorem dX5_change_105 : decode cX5_change 105 = .ok (.ireturn, 1) := by decide +kernel
theorem dX5_change_106 : decode cX5_change 106 = .ok (.aload_n 0, 1) := by decide +kernel
theorem dX5_change_107 : decode cX5_change 107 = .ok (.getfield 12, 3) := by decide +kernel
theorem dX5_change_110 : decode cX5_change 110 = .ok (.aload 4, 2) := by decide +kernel
theorem dX5_change_112 : decode cX5_change 112 = .ok (.invokevirtual 161, 3) := by decide +kernel
theorem dX5_change_115 : decode cX5_change 115 = .ok (.ifCond .eq 7, 3) := by decide +kernel
theorem dX5_change_118 : decode cX5_change 118 = .ok (.iconst 1, 1) := by decide +kernel
theorem dX5_change_119 : decode cX5_change 119 = .ok (.goto 4, 3) := by decide +kernel
theorem dX5_change_122 : decode cX5_change 122 = .ok (.iconst 0, 1) := by decide +kernel
theorem dX5_change_123 : decode cX5_change 123 = .ok (.ireturn, 1) := by decide +kernel
theorem dX5_change_124 : decode cX5_change 124 = .ok (.iconst (-1), 1) := by decide +kernel
theorem dX5_change_125 : decode cX5_change 125 = .ok (.ireturn, 1) := by decide +kernel
theorem dX5_thing_0 : decode cX5_thing 0 = .ok (.aload_n 0, 1) := by decide +kernel
theorem dX5_thing_1 : decode cX5_thing 1 = .ok (.iload_n 1, 1) := by decide +kernel
theorem dX5_thing_2 : decode cX5_thing 2 = .ok (.invokevirtual 62, 3) := by decide +kernel
theorem dX5_thing_5 : decode cX5_thing 5 = .ok (.ifCond .eq 29, 3) := by decide +kernel
theorem dX5_thing_8 : decode cX5_thing 8 = .ok (.iload_n 2, 1) := by decide +kernel
theorem dX5_thing_9 : decode cX5_thing 9 = .ok (.invokestatic 66, 3) := by decide +kernel
theorem dX5_thing_12 : decode cX5_thing 12 = .ok (.ifCond .eq 22, 3) := by decide +kernel
theorem dX5_thing_15 : decode cX5_thing 15 = .ok (.aload_n 0, 1) := by decide +kernel
theorem dX5_thing_16 : decode cX5_thing 16 = .ok (.iload_n 3, 1) := by decide +kernel
theorem dX5_thing_17 : decode cX5_thing 17 = .ok (.invokevirtual 165, 3) := by decide +kernel
theorem dX5_thing_20 : decode cX5_thing 20 = .ok (.ifCond .eq 14, 3) := by decide +kernel
theorem dX5_thing_23 : decode cX5_thing 23 = .ok (.iload 4, 2) := by decide +kernel
theorem dX5_thing_25 : decode cX5_thing 25 = .ok (.ifCond .lt 9, 3) := by decide +kernel
theorem dX5_thing_28 : decode cX5_thing 28 = .ok (.iload 4, 2) := by decide +kernel
theorem dX5_thing_30 : decode cX5_thing 30 = .ok (.iconst 3, 1) := by decide +kernel
theorem dX5_thing_31 : decode cX5_thing 31 = .ok (.if_icmp .le 5, 3) := by decide +kernel
theorem dX5_thing_34 : decode cX5_thing 34 = .ok (.iconst (-1), 1) := by decide +kernel
theorem dX5_thing_35 : decode cX5_thing 35 = .ok (.ireturn, 1) := by decide +kernel
theorem dX5_thing_36 : decode cX5_thing 36 = .ok (.aload_n 0, 1) := by decide +kernel
theorem dX5_thing_37 : decode cX5_thing 37 = .ok (.getfield 21, 3) := by decide +kernel
theorem dX5_thing_40 : decode cX5_thing 40 = .ok (.iload_n 1, 1) := by decide +kernel
theorem dX5_thing_41 : decode cX5_thing 41 = .ok (.iload_n 3, 1) := by decide +kernel
theorem dX5_thing_42 : decode cX5_thing 42 = .ok (.aload_n 0, 1) := by decide +kernel
theorem dX5_thing_43 : decode cX5_thing 43 = .ok (.getfield 59, 3) := by decide +kernel
theorem dX5_thing_46 : decode cX5_thing 46 = .ok (.invokevirtual 168, 3) := by decide +kernel
theorem dX5_thing_49 : decode cX5_thing 49 = .ok (.aload_n 0, 1) := by decide +kernel
theorem dX5_thing_50 : decode cX5_thing 50 = .ok (.getfield 21, 3) := by decide +kernel
theorem dX5_thing_53 : decode cX5_thing 53 = .ok (.iload_n 2, 1) := by decide +kernel
theorem dX5_thing_54 : decode cX5_thing 54 = .ok (.invokevirtual 107, 3) := by decide +kernel
theorem dX5_thing_57 : decode cX5_thing 57 = .ok (.ifCond .ne 16, 3) := by decide +kernel
theorem dX5_thing_60 : decode cX5_thing 60 = .ok (.iload 4, 2) := by decide +kernel
theorem dX5_thing_62 : decode cX5_thing 62 = .ok (.ifCond .ne 8, 3) := by decide +kernel
theorem dX5_thing_65 : decode cX5_thing 65 = .ok (.bipush (-9), 2) := by decide +kernel
theorem dX5_thing_67 : decode cX5_thing 67 = .ok (.goto 5, 3) := by decide +kernel
theorem dX5_thing_70 : decode cX5_thing 70 = .ok (.bipush (-2), 2) := by decide +kernel
theorem dX5_thing_72 : decode cX5_thing 72 = .ok (.ireturn, 1) := by decide +kernel
theorem dX5_thing_73 : decode cX5_thing 73 = .ok (.iload 4, 2) := by decide +kernel
theorem dX5_thing_75 : decode cX5_thing 75 = .ok (.ifCond .ne 30, 3) := by decide +kernel
theorem dX5_thing_78 : decode cX5_thing 78 = .ok (.aload_n 0, 1) := by decide +kernel
theorem dX5_thing_79 : decode cX5_thing 79 = .ok (.getfield 21, 3) := by decide +kernel
theorem dX5_thing_82 : decode cX5_thing 82 = .ok (.getfield 172, 3) := by decide +kernel
theorem dX5_thing_85 : decode cX5_thing 85 = .ok (.iload_n 2, 1) := by decide +kernel
theorem dX5_thing_86 : decode cX5_thing 86 = .ok (.iaload, 1) := by decide +kernel
theorem dX5_thing_87 : decode cX5_thing 87 = .ok (.iconst 1, 1) := by decide +kernel
theorem dX5_thing_88 : decode cX5_thing 88 = .ok (.if_icmp .le 7, 3) := by decide +kernel
theorem dX5_thing_91 : decode cX5_thing 91 = .ok (.iconst 5, 1) := by decide +kernel
theorem dX5_thing_92 : decode cX5_thing 92 = .ok (.goto 12, 3) := by decide +kernel
theorem dX5_thing_95 : decode cX5_thing 95 = .ok (.aload_n 0, 1) := by decide +kernel
theorem dX5_thing_96 : decode cX5_thing 96 = .ok (.getfield 21, 3) := by decide +kernel
theorem dX5_thing_99 : decode cX5_thing 99 = .ok (.getfield 175, 3) := by decide +kernel
theorem dX5_thing_102 : decode cX5_thing 102 = .ok (.iload_n 2, 1) := by decide +kernel
theorem dX5_thing_103 : decode cX5_thing 103 = .ok (.iaload, 1) := by decide +kernel
theorem dX5_thing_104 : decode cX5_thing 104 = .ok (.ireturn, 1) := by decide +kernel
theorem dX5_thing_105 : decode cX5_thing 105 = .ok (.iload 4, 2) := by decide +kernel
theorem dX5_thing_107 : decode cX5_thing 107 = .ok (.iconst 1, 1) := by decide +kernel
theorem dX5_thing_108 : decode cX5_thing 108 = .ok (.if_icmp .ne 22, 3) := by decide +kernel
theorem dX5_thing_111 : decode cX5_thing 111 = .ok (.iload_n 2, 1) := by decide +kernel
theorem dX5_thing_112 : decode cX5_thing 112 = .ok (.ifCond .ne 8, 3) := by decide +kernel
theorem dX5_thing_115 : decode cX5_thing 115 = .ok (.bipush (-9), 2) := by decide +kernel
theorem dX5_thing_117 : decode cX5_thing 117 = .ok (.goto 12, 3) := by decide +kernel
theorem dX5_thing_120 : decode cX5_thing 120 = .ok (.aload_n 0, 1) := by decide +kernel
theorem dX5_thing_121 : decode cX5_thing 121 = .ok (.getfield 21, 3) := by decide +kernel
theorem dX5_thing_124 : decode cX5_thing 124 = .ok (.getfield 177, 3) := by decide +kernel
theorem dX5_thing_127 : decode cX5_thing 127 = .ok (.iload_n 2, 1) := by decide +kernel
theorem dX5_thing_128 : decode cX5_thing 128 = .ok (.iaload, 1) := by decide +kernel
theorem dX5_thing_129 : decode cX5_thing 129 = .ok (.ireturn, 1) := by decide +kernel
theorem dX5_thing_130 : decode cX5_thing 130 = .ok (.iload 4, 2) := by decide +kernel
theorem dX5_thing_132 : decode cX5_thing 132 = .ok (.iconst 2, 1) := by decide +kernel
theorem dX5_thing_133 : decode cX5_thing 133 = .ok (.if_icmp .ne 15, 3) := by decide +kernel
theorem dX5_thing_136 : decode cX5_thing 136 = .ok (.aload_n 0, 1) := by decide +kernel
theorem dX5_thing_137 : decode cX5_thing 137 = .ok (.getfield 21, 3) := by decide +kernel
theorem dX5_thing_140 : decode cX5_thing 140 = .ok (.getfield 179, 3) := by decide +kernel
theorem dX5_thing_143 : decode cX5_thing 143 = .ok (.iload_n 2, 1) := by decide +kernel
theorem dX5_thing_144 : decode cX5_thing 144 = .ok (.iaload, 1) := by decide +kernel
theorem dX5_thing_145 : decode cX5_thing 145 = .ok (.goto 12, 3) := by decide +kernel
theorem dX5_thing_148 : decode cX5_thing 148 = .ok (.aload_n 0, 1) := by decide +kernel
theorem dX5_thing_149 : decode cX5_thing 149 = .ok (.getfield 21, 3) := by decide +kernel
theorem dX5_thing_152 : decode cX5_thing 152 = .ok (.getfield 172, 3) := by decide +kernel
theorem dX5_thing_155 : decode cX5_thing 155 = .ok (.iload_n 2, 1) := by decide +kernel
theorem dX5_thing_156 : decode cX5_thing 156 = .ok (.iaload, 1) := by decide +kernel
theorem dX5_thing_157 : decode cX5_thing 157 = .ok (.ireturn, 1) := by decide +kernel
theorem dX5_bytes_0 : decode cX5_bytes 0 = .ok (.aload_n 0, 1) := by decide +kernel
theorem dX5_bytes_1 : decode cX5_bytes 1 = .ok (.iload_n 1, 1) := by decide +kernel
theorem dX5_bytes_2 : decode cX5_bytes 2 = .ok (.invokevirtual 62, 3) := by decide +kernel
theorem dX5_bytes_5 : decode cX5_bytes 5 = .ok (.ifCond .eq 10, 3) := by decide +kernel
theorem dX5_bytes_8 : decode cX5_bytes 8 = .ok (.iload_n 2, 1) := by decide +kernel
theorem dX5_bytes_9 : decode cX5_bytes 9 = .ok (.invokestatic 66, 3) := by decide +kernel
theorem dX5_bytes_12 : decode cX5_bytes 12 = .ok (.ifCond .ne 5, 3) := by decide +kernel
theorem dX5_bytes_15 : decode cX5_bytes 15 = .ok (.iconst (-1), 1) := by decide +kernel
theorem dX5_bytes_16 : decode cX5_bytes 16 = .ok (.ireturn, 1) := by decide +kernel
theorem dX5_bytes_17 : decode cX5_bytes 17 = .ok (.aload_n 0, 1) := by decide +kernel
theorem dX5_bytes_18 : decode cX5_bytes 18 = .ok (.iload_n 1, 1) := by decide +kernel
theorem dX5_bytes_19 : decode cX5_bytes 19 = .ok (.invokevirtual 72, 3) := by decide +kernel
theorem dX5_bytes_22 : decode cX5_bytes 22 = .ok (.aload_n 0, 1) := by decide +kernel
theorem dX5_bytes_23 : decode cX5_bytes 23 = .ok (.getfield 21, 3) := by decide +kernel
theorem dX5_bytes_26 : decode cX5_bytes 26 = .ok (.iload_n 2, 1) := by decide +kernel
theorem dX5_bytes_27 : decode cX5_bytes 27 = .ok (.invokevirtual 110, 3) := by decide +kernel
theorem dX5_bytes_30 : decode cX5_bytes 30 = .ok (.ifCond .ne 6, 3) := by decide +kernel
theorem dX5_bytes_33 : decode cX5_bytes 33 = .ok (.bipush (-2), 2) := by decide +kernel
theorem dX5_bytes_35 : decode cX5_bytes 35 = .ok (.ireturn, 1) := by decide +kernel
theorem dX5_bytes_36 : decode cX5_bytes 36 = .ok (.iload_n 3, 1) := by decide +kernel
theorem dX5_bytes_37 : decode cX5_bytes 37 = .ok (.ifCond .lt 16, 3) := by decide +kernel
theorem dX5_bytes_40 : decode cX5_bytes 40 = .ok (.iload_n 3, 1) := by decide +kernel
theorem dX5_bytes_41 : decode cX5_bytes 41 = .ok (.aload_n 0, 1) := by decide +kernel
theorem dX5_bytes_42 : decode cX5_bytes 42 = .ok (.getfield 21, 3) := by decide +kernel
theorem dX5_bytes_45 : decode cX5_bytes 45 = .ok (.getfield 172, 3) := by decide +kernel
theorem dX5_bytes_48 : decode cX5_bytes 48 = .ok (.iload_n 2, 1) := by decide +kernel
theorem dX5_bytes_49 : decode cX5_bytes 49 = .ok (.iaload, 1) := by decide +kernel
theorem dX5_bytes_50 : decode cX5_bytes 50 = .ok (.if_icmp .lt 5, 3) := by decide +kernel
theorem dX5_bytes_53 : decode cX5_bytes 53 = .ok (.iconst (-1), 1) := by decide +kernel
theorem dX5_bytes_54 : decode cX5_bytes 54 = .ok (.ireturn, 1) := by decide +kernel
theorem dX5_bytes_55 : decode cX5_bytes 55 = .ok (.aload_n 0, 1) := by decide +kernel
theorem dX5_bytes_56 : decode cX5_bytes 56 = .ok (.getfield 21, 3) := by decide +kernel
theorem dX5_bytes_59 : decode cX5_bytes 59 = .ok (.iload_n 2, 1) := by decide +kernel
theorem dX5_bytes_60 : decode cX5_bytes 60 = .ok (.iload_n 3, 1) := by decide +kernel
theorem dX5_bytes_61 : decode cX5_bytes 61 = .ok (.invokevirtual 181, 3) := by decide +kernel
theorem dX5_bytes_64 : decode cX5_bytes 64 = .ok (.astore 5, 2) := by decide +kernel
theorem dX5_bytes_66 : decode cX5_bytes 66 = .ok (.iload 4, 2) := by decide +kernel
theorem dX5_bytes_68 : decode cX5_bytes 68 = .ok (.iconst (-1), 1) := by decide +kernel
theorem dX5_bytes_69 : decode cX5_bytes 69 = .ok (.if_icmp .ne 9, 3) := by decide +kernel
theorem dX5_bytes_72 : decode cX5_bytes 72 = .ok (.aload 5, 2) := by decide +kernel
theorem dX5_bytes_74 : decode cX5_bytes 74 = .ok (.getfield 127, 3) := by decide +kernel
theorem dX5_bytes_77 : decode cX5_bytes 77 = .ok (.ireturn, 1) := by decide +kernel
theorem dX5_bytes_78 : decode cX5_bytes 78 = .ok (.iload 4, 2) := by decide +kernel
theorem dX5_bytes_80 : decode cX5_bytes 80 = .ok (.ifCond .lt 13, 3) := by decide +kernel
theorem dX5_bytes_83 : decode cX5_bytes 83 = .ok (.iload 4, 2) := by decide +kernel
theorem dX5_bytes_85 : decode cX5_bytes 85 = .ok (.aload 5, 2) := by decide +kernel
theorem dX5_bytes_87 : decode cX5_bytes 87 = .ok (.getfield 127, 3) := by decide +kernel
theorem dX5_bytes_90 : decode cX5_bytes 90 = .ok (.if_icmp .lt 5, 3) := by decide +kernel
theorem dX5_bytes_93 : decode cX5_bytes 93 = .ok (.iconst (-1), 1) := by decide +kernel
theorem dX5_bytes_94 : decode cX5_bytes 94 = .ok (.ireturn, 1) := by decide +kernel
theorem dX5_bytes_95 : decode cX5_bytes 95 = .ok (.aload 5, 2) := by decide +kernel
theorem dX5_bytes_97 : decode cX5_bytes 97 = .ok (.getfield 123, 3) := by decide +kernel
theorem dX5_bytes_100 : decode cX5_bytes 100 = .ok (.aload 5, 2) := by decide +kernel
theorem dX5_bytes_102 : decode cX5_bytes 102 = .ok (.getfield 127, 3) := by decide +kernel
theorem dX5_bytes_105 : decode cX5_bytes 105 = .ok (.iload 4, 2) := by decide +kernel
theorem dX5_bytes_107 : decode cX5_bytes 107 = .ok (.invokestatic 184, 3) := by decide +kernel
theorem dX5_bytes_110 : decode cX5_bytes 110 = .ok (.ireturn, 1) := by decide +kernel
theorem dX5_bulk_0 : decode cX5_bulk 0 = .ok (.iload_n 1, 1) := by decide +kernel
theorem dX5_bulk_1 : decode cX5_bulk 1 = .ok (.ifCond .lt 23, 3) := by decide +kernel
theorem dX5_bulk_4 : decode cX5_bulk 4 = .ok (.iload_n 1, 1) := by decide +kernel
theorem dX5_bulk_5 : decode cX5_bulk 5 = .ok (.iconst 5, 1) := by decide +kernel
theorem dX5_bulk_6 : decode cX5_bulk 6 = .ok (.if_icmp .gt 18, 3) := by decide +kernel
theorem dX5_bulk_9 : decode cX5_bulk 9 = .ok (.aload_n 0, 1) := by decide +kernel
theorem dX5_bulk_10 : decode cX5_bulk 10 = .ok (.iload_n 2, 1) := by decide +kernel
theorem dX5_bulk_11 : decode cX5_bulk 11 = .ok (.invokevirtual 62, 3) := by decide +kernel
theorem dX5_bulk_14 : decode cX5_bulk 14 = .ok (.ifCond .eq 10, 3) := by decide +kernel
theorem dX5_bulk_17 : decode cX5_bulk 17 = .ok (.iload_n 3, 1) := by decide +kernel
theorem dX5_bulk_18 : decode cX5_bulk 18 = .ok (.invokestatic 66, 3) := by decide +kernel
theorem dX5_bulk_21 : decode cX5_bulk 21 = .ok (.ifCond .ne 5, 3) := by decide +kernel
theorem dX5_bulk_24 : decode cX5_bulk 24 = .ok (.iconst (-1), 1) := by decide +kernel
theorem dX5_bulk_25 : decode cX5_bulk 25 = .ok (.ireturn, 1) := by decide +kernel
theorem dX5_bulk_26 : decode cX5_bulk 26 = .ok (.aload_n 0, 1) := by decide +kernel
theorem dX5_bulk_27 : decode cX5_bulk 27 = .ok (.iload_n 2, 1) := by decide +kernel
theorem dX5_bulk_28 : decode cX5_bulk 28 = .ok (.invokevirtual 72, 3) := by decide +kernel
theorem dX5_bulk_31 : decode cX5_bulk 31 = .ok (.aload_n 0, 1) := by decide +kernel
theorem dX5_bulk_32 : decode cX5_bulk 32 = .ok (.getfield 21, 3) := by decide +kernel
theorem dX5_bulk_35 : decode cX5_bulk 35 = .ok (.iload_n 3, 1) := by decide +kernel
theorem dX5_bulk_36 : decode cX5_bulk 36 = .ok (.invokevirtual 107, 3) := by decide +kernel
theorem dX5_bulk_39 : decode cX5_bulk 39 = .ok (.ifCond .ne 6, 3) := by decide +kernel
theorem dX5_bulk_42 : decode cX5_bulk 42 = .ok (.bipush (-2), 2) := by decide +kernel
theorem dX5_bulk_44 : decode cX5_bulk 44 = .ok (.ireturn, 1) := by decide +kernel
theorem dX5_bulk_45 : decode cX5_bulk 45 = .ok (.iload_n 1, 1) := by decide +kernel
theorem dX5_bulk_46 : decode cX5_bulk 46 = .ok (.tableswitch 64 1 5 #[34, 40, 46, 52, 58], 34) := by decide +kernel
theorem dX5_bulk_80 : decode cX5_bulk 80 = .ok (.aload_n 0, 1) := by decide +kernel
theorem dX5_bulk_81 : decode cX5_bulk 81 = .ok (.iload_n 3, 1) := by decide +kernel
theorem dX5_bulk_82 : decode cX5_bulk 82 = .ok (.invokevirtual 188, 3) := by decide +kernel
theorem dX5_bulk_85 : decode cX5_bulk 85 = .ok (.ireturn, 1) := by decide +kernel
theorem dX5_bulk_86 : decode cX5_bulk 86 = .ok (.aload_n 0, 1) := by decide +kernel
theorem dX5_bulk_87 : decode cX5_bulk 87 = .ok (.iload_n 3, 1) := by decide +kernel
theorem dX5_bulk_88 : decode cX5_bulk 88 = .ok (.invokevirtual 191, 3) := by decide +kernel
theorem dX5_bulk_91 : decode cX5_bulk 91 = .ok (.ireturn, 1) := by decide +kernel
theorem dX5_bulk_92 : decode cX5_bulk 92 = .ok (.aload_n 0, 1) := by decide +kernel
theorem dX5_bulk_93 : decode cX5_bulk 93 = .ok (.iload_n 3, 1) := by decide +kernel
theorem dX5_bulk_94 : decode cX5_bulk 94 = .ok (.invokevirtual 194, 3) := by decide +kernel
theorem dX5_bulk_97 : decode cX5_bulk 97 = .ok (.ireturn, 1) := by decide +kernel
theorem dX5_bulk_98 : decode cX5_bulk 98 = .ok (.aload_n 0, 1) := by decide +kernel
theorem dX5_bulk_99 : decode cX5_bulk 99 = .ok (.iload_n 3, 1) := by decide +kernel
theorem dX5_bulk_100 : decode cX5_bulk 100 = .ok (.invokevirtual 197, 3) := by decide +kernel
theorem dX5_bulk_103 : decode cX5_bulk 103 = .ok (.ireturn, 1) := by decide +kernel
theorem dX5_bulk_104 : decode cX5_bulk 104 = .ok (.aload_n 0, 1) := by decide +kernel
theorem dX5_bulk_105 : decode cX5_bulk 105 = .ok (.iload_n 3, 1) := by decide +kernel
theorem dX5_bulk_106 : decode cX5_bulk 106 = .ok (.invokevirtual 200, 3) := by decide +kernel
theorem dX5_bulk_109 : decode cX5_bulk 109 = .ok (.ireturn, 1) := by decide +kernel
theorem dX5_bulk_110 : decode cX5_bulk 110 = .ok (.aload_n 0, 1) := by decide +kernel
theorem dX5_bulk_111 : decode cX5_bulk 111 = .ok (.iload_n 3, 1) := by decide +kernel
theorem dX5_bulk_112 : decode cX5_bulk 112 = .ok (.invokevirtual 203, 3) := by decide +kernel
theorem dX5_bulk_115 : decode cX5_bulk 115 = .ok (.ireturn, 1) := by decide +kernel
theorem dX5_things_0 : decode cX5_things 0 = .ok (.aload_n 0, 1) := by decide +kernel
theorem dX5_things_1 : decode cX5_things 1 = .ok (.iload_n 1, 1) := by decide +kernel
theorem dX5_things_2 : decode cX5_things 2 = .ok (.invokevirtual 62, 3) := by decide +kernel
theorem dX5_things_5 : decode cX5_things 5 = .ok (.ifCond .eq 11, 3) := by decide +kernel
theorem dX5_things_8 : decode cX5_things 8 = .ok (.aload_n 0, 1) := by decide +kernel
theorem dX5_things_9 : decode cX5_things 9 = .ok (.iload_n 2, 1) := by decide +kernel
theorem dX5_things_10 : decode cX5_things 10 = .ok (.invokevirtual 165, 3) := by decide +kernel
theorem dX5_things_13 : decode cX5_things 13 = .ok (.ifCond .ne 5, 3) := by decide +kernel
theorem dX5_things_16 : decode cX5_things 16 = .ok (.iconst (-1), 1) := by decide +kernel
theorem dX5_things_17 : decode cX5_things 17 = .ok (.ireturn, 1) := by decide +kernel
theorem dX5_things_18 : decode cX5_things 18 = .ok (.aload_n 0, 1) := by decide +kernel
theorem dX5_things_19 : decode cX5_things 19 = .ok (.getfield 21, 3) := by decide +kernel
theorem dX5_things_22 : decode cX5_things 22 = .ok (.iload_n 1, 1) := by decide +kernel
theorem dX5_things_23 : decode cX5_things 23 = .ok (.iload_n 2, 1) := by decide +kernel
theorem dX5_things_24 : decode cX5_things 24 = .ok (.aload_n 0, 1) := by decide +kernel
theorem dX5_things_25 : decode cX5_things 25 = .ok (.getfield 59, 3) := by decide +kernel
theorem dX5_things_28 : decode cX5_things 28 = .ok (.invokevirtual 168, 3) := by decide +kernel
theorem dX5_things_31 : decode cX5_things 31 = .ok (.iconst 0, 1) := by decide +kernel
theorem dX5_things_32 : decode cX5_things 32 = .ok (.istore_n 3, 1) := by decide +kernel
theorem dX5_things_33 : decode cX5_things 33 = .ok (.iconst 0, 1) := by decide +kernel
theorem dX5_things_34 : decode cX5_things 34 = .ok (.istore 4, 2) := by decide +kernel
theorem dX5_things_36 : decode cX5_things 36 = .ok (.iload 4, 2) := by decide +kernel
theorem dX5_things_38 : decode cX5_things 38 = .ok (.bipush 12, 2) := by decide +kernel
theorem dX5_things_40 : decode cX5_things 40 = .ok (.if_icmp .ge 24, 3) := by decide +kernel
theorem dX5_things_43 : decode cX5_things 43 = .ok (.aload_n 0, 1) := by decide +kernel
theorem dX5_things_44 : decode cX5_things 44 = .ok (.getfield 21, 3) := by decide +kernel
theorem dX5_things_47 : decode cX5_things 47 = .ok (.iload 4, 2) := by decide +kernel
theorem dX5_things_49 : decode cX5_things 49 = .ok (.invokevirtual 107, 3) := by decide +kernel
theorem dX5_things_52 : decode cX5_things 52 = .ok (.ifCond .eq 6, 3) := by decide +kernel
theorem dX5_things_55 : decode cX5_things 55 = .ok (.iinc 3 1, 3) := by decide +kernel
theorem dX5_things_58 : decode cX5_things 58 = .ok (.iinc 4 1, 3) := by decide +kernel
theorem dX5_things_61 : decode cX5_things 61 = .ok (.goto (-25), 3) := by decide +kernel
theorem dX5_things_64 : decode cX5_things 64 = .ok (.iload_n 3, 1) := by decide +kernel
theorem dX5_things_65 : decode cX5_things 65 = .ok (.ireturn, 1) := by decide +kernel
theorem dX5_find_0 : decode cX5_find 0 = .ok (.aload_n 0, 1) := by decide +kernel
theorem dX5_find_1 : decode cX5_find 1 = .ok (.iload_n 1, 1) := by decide +kernel
theorem dX5_find_2 : decode cX5_find 2 = .ok (.invokevirtual 62, 3) := by decide +kernel
theorem dX5_find_5 : decode cX5_find 5 = .ok (.ifCond .eq 20, 3) := by decide +kernel
theorem dX5_find_8 : decode cX5_find 8 = .ok (.iload_n 2, 1) := by decide +kernel
theorem dX5_find_9 : decode cX5_find 9 = .ok (.invokestatic 66, 3) := by decide +kernel
theorem dX5_find_12 : decode cX5_find 12 = .ok (.ifCond .eq 13, 3) := by decide +kernel
theorem dX5_find_15 : decode cX5_find 15 = .ok (.iload_n 3, 1) := by decide +kernel
theorem dX5_find_16 : decode cX5_find 16 = .ok (.ifCond .lt 9, 3) := by decide +kernel
theorem dX5_find_19 : decode cX5_find 19 = .ok (.iload_n 3, 1) := by decide +kernel
theorem dX5_find_20 : decode cX5_find 20 = .ok (.bipush 22, 2) := by decide +kernel
theorem dX5_find_22 : decode cX5_find 22 = .ok (.if_icmp .le 5, 3) := by decide +kernel
theorem dX5_find_25 : decode cX5_find 25 = .ok (.iconst (-1), 1) := by decide +kernel
theorem dX5_find_26 : decode cX5_find 26 = .ok (.ireturn, 1) := by decide +kernel
theorem dX5_find_27 : decode cX5_find 27 = .ok (.aload_n 0, 1) := by decide +kernel
theorem dX5_find_28 : decode cX5_find 28 = .ok (.iload_n 1, 1) := by decide +kernel
theorem dX5_find_29 : decode cX5_find 29 = .ok (.invokevirtual 72, 3) := by decide +kernel
theorem dX5_find_32 : decode cX5_find 32 = .ok (.aload_n 0, 1) := by decide +kernel
theorem dX5_find_33 : decode cX5_find 33 = .ok (.getfield 21, 3) := by decide +kernel
theorem dX5_find_36 : decode cX5_find 36 = .ok (.iload_n 2, 1) := by decide +kernel
theorem dX5_find_37 : decode cX5_find 37 = .ok (.invokevirtual 75, 3) := by decide +kernel
theorem dX5_find_40 : decode cX5_find 40 = .ok (.ifCond .ne 6, 3) := by decide +kernel
theorem dX5_find_43 : decode cX5_find 43 = .ok (.bipush (-2), 2) := by decide +kernel
theorem dX5_find_45 : decode cX5_find 45 = .ok (.ireturn, 1) := by decide +kernel
theorem dX5_find_46 : decode cX5_find 46 = .ok (.aload_n 0, 1) := by decide +kernel
theorem dX5_find_47 : decode cX5_find 47 = .ok (.getfield 21, 3) := by decide +kernel
theorem dX5_find_50 : decode cX5_find 50 = .ok (.iload_n 2, 1) := by decide +kernel
theorem dX5_find_51 : decode cX5_find 51 = .ok (.iload_n 3, 1) := by decide +kernel
theorem dX5_find_52 : decode cX5_find 52 = .ok (.invokevirtual 206, 3) := by decide +kernel
theorem dX5_find_55 : decode cX5_find 55 = .ok (.ireturn, 1) := by decide +kernel
theorem dX5_sum_0 : decode cX5_sum 0 = .ok (.aload_n 0, 1) := by decide +kernel
theorem dX5_sum_1 : decode cX5_sum 1 = .ok (.iload_n 1, 1) := by decide +kernel
theorem dX5_sum_2 : decode cX5_sum 2 = .ok (.invokevirtual 62, 3) := by decide +kernel
theorem dX5_sum_5 : decode cX5_sum 5 = .ok (.ifCond .eq 11, 3) := by decide +kernel
theorem dX5_sum_8 : decode cX5_sum 8 = .ok (.aload_n 0, 1) := by decide +kernel
theorem dX5_sum_9 : decode cX5_sum 9 = .ok (.iload_n 2, 1) := by decide +kernel
theorem dX5_sum_10 : decode cX5_sum 10 = .ok (.invokevirtual 165, 3) := by decide +kernel
theorem dX5_sum_13 : decode cX5_sum 13 = .ok (.ifCond .ne 5, 3) := by decide +kernel
theorem dX5_sum_16 : decode cX5_sum 16 = .ok (.iconst (-1), 1) := by decide +kernel
theorem dX5_sum_17 : decode cX5_sum 17 = .ok (.ireturn, 1) := by decide +kernel
theorem dX5_sum_18 : decode cX5_sum 18 = .ok (.aload_n 0, 1) := by decide +kernel
theorem dX5_sum_19 : decode cX5_sum 19 = .ok (.getfield 21, 3) := by decide +kernel
theorem dX5_sum_22 : decode cX5_sum 22 = .ok (.iload_n 1, 1) := by decide +kernel
theorem dX5_sum_23 : decode cX5_sum 23 = .ok (.iload_n 2, 1) := by decide +kernel
theorem dX5_sum_24 : decode cX5_sum 24 = .ok (.aload_n 0, 1) := by decide +kernel
theorem dX5_sum_25 : decode cX5_sum 25 = .ok (.getfield 59, 3) := by decide +kernel
theorem dX5_sum_28 : decode cX5_sum 28 = .ok (.invokevirtual 168, 3) := by decide +kernel
theorem dX5_sum_31 : decode cX5_sum 31 = .ok (.iconst 0, 1) := by decide +kernel
theorem dX5_sum_32 : decode cX5_sum 32 = .ok (.istore_n 3, 1) := by decide +kernel
theorem dX5_sum_33 : decode cX5_sum 33 = .ok (.iconst 0, 1) := by decide +kernel
theorem dX5_sum_34 : decode cX5_sum 34 = .ok (.istore 4, 2) := by decide +kernel
theorem dX5_sum_36 : decode cX5_sum 36 = .ok (.iload 4, 2) := by decide +kernel
theorem dX5_sum_38 : decode cX5_sum 38 = .ok (.bipush 12, 2) := by decide +kernel
theorem dX5_sum_40 : decode cX5_sum 40 = .ok (.if_icmp .ge 73, 3) := by decide +kernel
theorem dX5_sum_43 : decode cX5_sum 43 = .ok (.aload_n 0, 1) := by decide +kernel
theorem dX5_sum_44 : decode cX5_sum 44 = .ok (.getfield 21, 3) := by decide +kernel
theorem dX5_sum_47 : decode cX5_sum 47 = .ok (.iload 4, 2) := by decide +kernel
theorem dX5_sum_49 : decode cX5_sum 49 = .ok (.invokevirtual 107, 3) := by decide +kernel
theorem dX5_sum_52 : decode cX5_sum 52 = .ok (.ifCond .eq 55, 3) := by decide +kernel
theorem dX5_sum_55 : decode cX5_sum 55 = .ok (.bipush 31, 2) := by decide +kernel
theorem dX5_sum_57 : decode cX5_sum 57 = .ok (.aload_n 0, 1) := by decide +kernel
theorem dX5_sum_58 : decode cX5_sum 58 = .ok (.getfield 21, 3) := by decide +kernel
theorem dX5_sum_61 : decode cX5_sum 61 = .ok (.getfield 177, 3) := by decide +kernel
theorem dX5_sum_64 : decode cX5_sum 64 = .ok (.iload 4, 2) := by decide +kernel
theorem dX5_sum_66 : decode cX5_sum 66 = .ok (.iaload, 1) := by decide +kernel
theorem dX5_sum_67 : decode cX5_sum 67 = .ok (.imul, 1) := by decide +kernel
theorem dX5_sum_68 : decode cX5_sum 68 = .ok (.bipush 7, 2) := by decide +kernel
theorem dX5_sum_70 : decode cX5_sum 70 = .ok (.aload_n 0, 1) := by decide +kernel
theorem dX5_sum_71 : decode cX5_sum 71 = .ok (.getfield 21, 3) := by decide +kernel
theorem dX5_sum_74 : decode cX5_sum 74 = .ok (.getfield 179, 3) := by decide +kernel
theorem dX5_sum_77 : decode cX5_sum 77 = .ok (.iload 4, 2) := by decide +kernel
theorem dX5_sum_79 : decode cX5_sum 79 = .ok (.iaload, 1) := by decide +kernel
theorem dX5_sum_80 : decode cX5_sum 80 = .ok (.imul, 1) := by decide +kernel
theorem dX5_sum_81 : decode cX5_sum 81 = .ok (.iadd, 1) := by decide +kernel
theorem dX5_sum_82 : decode cX5_sum 82 = .ok (.aload_n 0, 1) := by decide +kernel
theorem dX5_sum_83 : decode cX5_sum 83 = .ok (.getfield 21, 3) := by decide +kernel
theorem dX5_sum_86 : decode cX5_sum 86 = .ok (.iload 4, 2) := by decide +kernel
theorem dX5_sum_88 : decode cX5_sum 88 = .ok (.invokevirtual 210, 3) := by decide +kernel
theorem dX5_sum_91 : decode cX5_sum 91 = .ok (.iadd, 1) := by decide +kernel
theorem dX5_sum_92 : decode cX5_sum 92 = .ok (.istore 5, 2) := by decide +kernel
end
section
theorem dX5_sum_94 : decode cX5_sum 94 = .ok (.iload_n 3, 1) := by decide +kernel
theorem dX5_sum_95 : decode cX5_sum 95 = .ok (.iconst 1, 1) := by decide +kernel
theorem dX5_sum_96 : decode cX5_sum 96 = .ok (.iadd, 1) := by decide +kernel
theorem dX5_sum_97 : decode cX5_sum 97 = .ok (.iload 4, 2) := by decide +kernel
theorem dX5_sum_99 : decode cX5_sum 99 = .ok (.iload 5, 2) := by decide +kernel
theorem dX5_sum_101 : decode cX5_sum 101 = .ok (.imul, 1) := by decide +kernel
theorem dX5_sum_102 : decode cX5_sum 102 = .ok (.iadd, 1) := by decide +kernel
theorem dX5_sum_103 : decode cX5_sum 103 = .ok (.ldc 213, 2) := by decide +kernel
theorem dX5_sum_105 : decode cX5_sum 105 = .ok (.irem, 1) := by decide +kernel
theorem dX5_sum_106 : decode cX5_sum 106 = .ok (.istore_n 3, 1) := by decide +kernel
theorem dX5_sum_107 : decode cX5_sum 107 = .ok (.iinc 4 1, 3) := by decide +kernel
theorem dX5_sum_110 : decode cX5_sum 110 = .ok (.goto (-74), 3) := by decide +kernel
theorem dX5_sum_113 : decode cX5_sum 113 = .ok (.iload_n 3, 1) := by decide +kernel
theorem dX5_sum_114 : decode cX5_sum 114 = .ok (.ireturn, 1) := by decide +kernel
theorem dX5_differ_0 : decode cX5_differ 0 = .ok (.aload_n 0, 1) := by decide +kernel
theorem dX5_differ_1 : decode cX5_differ 1 = .ok (.iload_n 1, 1) := by decide +kernel
theorem dX5_differ_2 : decode cX5_differ 2 = .ok (.invokevirtual 62, 3) := by decide +kernel
theorem dX5_differ_5 : decode cX5_differ 5 = .ok (.ifCond .eq 11, 3) := by decide +kernel
theorem dX5_differ_8 : decode cX5_differ 8 = .ok (.aload_n 0, 1) := by decide +kernel
theorem dX5_differ_9 : decode cX5_differ 9 = .ok (.iload_n 2, 1) := by decide +kernel
theorem dX5_differ_10 : decode cX5_differ 10 = .ok (.invokevirtual 62, 3) := by decide +kernel
theorem dX5_differ_13 : decode cX5_differ 13 = .ok (.ifCond .ne 5, 3) := by decide +kernel
theorem dX5_differ_16 : decode cX5_differ 16 = .ok (.iconst (-1), 1) := by decide +kernel
theorem dX5_differ_17 : decode cX5_differ 17 = .ok (.ireturn, 1) := by decide +kernel
theorem dX5_differ_18 : decode cX5_differ 18 = .ok (.iconst 0, 1) := by decide +kernel
theorem dX5_differ_19 : decode cX5_differ 19 = .ok (.istore_n 3, 1) := by decide +kernel
theorem dX5_differ_20 : decode cX5_differ 20 = .ok (.iconst 0, 1) := by decide +kernel
theorem dX5_differ_21 : decode cX5_differ 21 = .ok (.istore 4, 2) := by decide +kernel
theorem dX5_differ_23 : decode cX5_differ 23 = .ok (.iload 4, 2) := by decide +kernel
theorem dX5_differ_25 : decode cX5_differ 25 = .ok (.iconst 4, 1) := by decide +kernel
theorem dX5_differ_26 : decode cX5_differ 26 = .ok (.if_icmp .ge 50, 3) := by decide +kernel
theorem dX5_differ_29 : decode cX5_differ 29 = .ok (.iload_n 3, 1) := by decide +kernel
theorem dX5_differ_30 : decode cX5_differ 30 = .ok (.aload_n 0, 1) := by decide +kernel
theorem dX5_differ_31 : decode cX5_differ 31 = .ok (.getfield 12, 3) := by decide +kernel
theorem dX5_differ_34 : decode cX5_differ 34 = .ok (.aload_n 0, 1) := by decide +kernel
theorem dX5_differ_35 : decode cX5_differ 35 = .ok (.getfield 12, 3) := by decide +kernel
theorem dX5_differ_38 : decode cX5_differ 38 = .ok (.getfield 214, 3) := by decide +kernel
theorem dX5_differ_41 : decode cX5_differ 41 = .ok (.iload_n 1, 1) := by decide +kernel
theorem dX5_differ_42 : decode cX5_differ 42 = .ok (.iload 4, 2) := by decide +kernel
theorem dX5_differ_44 : decode cX5_differ 44 = .ok (.invokevirtual 217, 3) := by decide +kernel
theorem dX5_differ_47 : decode cX5_differ 47 = .ok (.aload_n 0, 1) := by decide +kernel
theorem dX5_differ_48 : decode cX5_differ 48 = .ok (.getfield 12, 3) := by decide +kernel
theorem dX5_differ_51 : decode cX5_differ 51 = .ok (.aload_n 0, 1) := by decide +kernel
theorem dX5_differ_52 : decode cX5_differ 52 = .ok (.getfield 12, 3) := by decide +kernel
theorem dX5_differ_55 : decode cX5_differ 55 = .ok (.getfield 214, 3) := by decide +kernel
theorem dX5_differ_58 : decode cX5_differ 58 = .ok (.iload_n 2, 1) := by decide +kernel
theorem dX5_differ_59 : decode cX5_differ 59 = .ok (.iload 4, 2) := by decide +kernel
theorem dX5_differ_61 : decode cX5_differ 61 = .ok (.invokevirtual 217, 3) := by decide +kernel
theorem dX5_differ_64 : decode cX5_differ 64 = .ok (.isub, 1) := by decide +kernel
theorem dX5_differ_65 : decode cX5_differ 65 = .ok (.invokestatic 220, 3) := by decide +kernel
theorem dX5_differ_68 : decode cX5_differ 68 = .ok (.iadd, 1) := by decide +kernel
theorem dX5_differ_69 : decode cX5_differ 69 = .ok (.istore_n 3, 1) := by decide +kernel
theorem dX5_differ_70 : decode cX5_differ 70 = .ok (.iinc 4 1, 3) := by decide +kernel
theorem dX5_differ_73 : decode cX5_differ 73 = .ok (.goto (-50), 3) := by decide +kernel
theorem dX5_differ_76 : decode cX5_differ 76 = .ok (.iload_n 3, 1) := by decide +kernel
theorem dX5_differ_77 : decode cX5_differ 77 = .ok (.ireturn, 1) := by decide +kernel
theorem dX5_apart_0 : decode cX5_apart 0 = .ok (.aload_n 0, 1) := by decide +kernel
theorem dX5_apart_1 : decode cX5_apart 1 = .ok (.iload_n 1, 1) := by decide +kernel
theorem dX5_apart_2 : decode cX5_apart 2 = .ok (.invokevirtual 62, 3) := by decide +kernel
theorem dX5_apart_5 : decode cX5_apart 5 = .ok (.ifCond .eq 13, 3) := by decide +kernel
theorem dX5_apart_8 : decode cX5_apart 8 = .ok (.iload_n 2, 1) := by decide +kernel
theorem dX5_apart_9 : decode cX5_apart 9 = .ok (.ifCond .lt 9, 3) := by decide +kernel
theorem dX5_apart_12 : decode cX5_apart 12 = .ok (.iload_n 2, 1) := by decide +kernel
theorem dX5_apart_13 : decode cX5_apart 13 = .ok (.bipush 20, 2) := by decide +kernel
theorem dX5_apart_15 : decode cX5_apart 15 = .ok (.if_icmp .le 5, 3) := by decide +kernel
theorem dX5_apart_18 : decode cX5_apart 18 = .ok (.iconst (-1), 1) := by decide +kernel
theorem dX5_apart_19 : decode cX5_apart 19 = .ok (.ireturn, 1) := by decide +kernel
theorem dX5_apart_20 : decode cX5_apart 20 = .ok (.aload_n 0, 1) := by decide +kernel
theorem dX5_apart_21 : decode cX5_apart 21 = .ok (.getfield 12, 3) := by decide +kernel
theorem dX5_apart_24 : decode cX5_apart 24 = .ok (.iload_n 1, 1) := by decide +kernel
theorem dX5_apart_25 : decode cX5_apart 25 = .ok (.iload_n 2, 1) := by decide +kernel
theorem dX5_apart_26 : decode cX5_apart 26 = .ok (.invokevirtual 225, 3) := by decide +kernel
theorem dX5_apart_29 : decode cX5_apart 29 = .ok (.ireturn, 1) := by decide +kernel
theorem dX5_let_0 : decode cX5_let 0 = .ok (.aload_n 0, 1) := by decide +kernel
theorem dX5_let_1 : decode cX5_let 1 = .ok (.iload_n 1, 1) := by decide +kernel
theorem dX5_let_2 : decode cX5_let 2 = .ok (.invokevirtual 62, 3) := by decide +kernel
theorem dX5_let_5 : decode cX5_let 5 = .ok (.ifCond .ne 5, 3) := by decide +kernel
theorem dX5_let_8 : decode cX5_let 8 = .ok (.iconst (-1), 1) := by decide +kernel
theorem dX5_let_9 : decode cX5_let 9 = .ok (.ireturn, 1) := by decide +kernel
theorem dX5_let_10 : decode cX5_let 10 = .ok (.aload_n 0, 1) := by decide +kernel
theorem dX5_let_11 : decode cX5_let 11 = .ok (.getfield 12, 3) := by decide +kernel
theorem dX5_let_14 : decode cX5_let 14 = .ok (.getfield 228, 3) := by decide +kernel
theorem dX5_let_17 : decode cX5_let 17 = .ok (.iload_n 1, 1) := by decide +kernel
theorem dX5_let_18 : decode cX5_let 18 = .ok (.iaload, 1) := by decide +kernel
theorem dX5_let_19 : decode cX5_let 19 = .ok (.bipush (-9), 2) := by decide +kernel
theorem dX5_let_21 : decode cX5_let 21 = .ok (.if_icmp .ne 6, 3) := by decide +kernel
theorem dX5_let_24 : decode cX5_let 24 = .ok (.bipush (-2), 2) := by decide +kernel
theorem dX5_let_26 : decode cX5_let 26 = .ok (.ireturn, 1) := by decide +kernel
theorem dX5_let_27 : decode cX5_let 27 = .ok (.aload_n 0, 1) := by decide +kernel
theorem dX5_let_28 : decode cX5_let 28 = .ok (.getfield 12, 3) := by decide +kernel
theorem dX5_let_31 : decode cX5_let 31 = .ok (.iload_n 1, 1) := by decide +kernel
theorem dX5_let_32 : decode cX5_let 32 = .ok (.bipush (-9), 2) := by decide +kernel
theorem dX5_let_34 : decode cX5_let 34 = .ok (.invokevirtual 225, 3) := by decide +kernel
theorem dX5_let_37 : decode cX5_let 37 = .ok (.ireturn, 1) := by decide +kernel
theorem dX5_taken_0 : decode cX5_taken 0 = .ok (.aload_n 0, 1) := by decide +kernel
theorem dX5_taken_1 : decode cX5_taken 1 = .ok (.iload_n 1, 1) := by decide +kernel
theorem dX5_taken_2 : decode cX5_taken 2 = .ok (.invokevirtual 62, 3) := by decide +kernel
theorem dX5_taken_5 : decode cX5_taken 5 = .ok (.ifCond .ne 5, 3) := by decide +kernel
theorem dX5_taken_8 : decode cX5_taken 8 = .ok (.iconst (-1), 1) := by decide +kernel
theorem dX5_taken_9 : decode cX5_taken 9 = .ok (.ireturn, 1) := by decide +kernel
theorem dX5_taken_10 : decode cX5_taken 10 = .ok (.iconst 0, 1) := by decide +kernel
theorem dX5_taken_11 : decode cX5_taken 11 = .ok (.istore_n 2, 1) := by decide +kernel
theorem dX5_taken_12 : decode cX5_taken 12 = .ok (.iconst 0, 1) := by decide +kernel
theorem dX5_taken_13 : decode cX5_taken 13 = .ok (.istore_n 3, 1) := by decide +kernel
theorem dX5_taken_14 : decode cX5_taken 14 = .ok (.iload_n 3, 1) := by decide +kernel
theorem dX5_taken_15 : decode cX5_taken 15 = .ok (.iconst 4, 1) := by decide +kernel
theorem dX5_taken_16 : decode cX5_taken 16 = .ok (.if_icmp .ge 42, 3) := by decide +kernel
theorem dX5_taken_19 : decode cX5_taken 19 = .ok (.iload_n 2, 1) := by decide +kernel
theorem dX5_taken_20 : decode cX5_taken 20 = .ok (.iconst 0, 1) := by decide +kernel
theorem dX5_taken_21 : decode cX5_taken 21 = .ok (.aload_n 0, 1) := by decide +kernel
theorem dX5_taken_22 : decode cX5_taken 22 = .ok (.getfield 12, 3) := by decide +kernel
theorem dX5_taken_25 : decode cX5_taken 25 = .ok (.aload_n 0, 1) := by decide +kernel
theorem dX5_taken_26 : decode cX5_taken 26 = .ok (.getfield 12, 3) := by decide +kernel
theorem dX5_taken_29 : decode cX5_taken 29 = .ok (.getfield 214, 3) := by decide +kernel
theorem dX5_taken_32 : decode cX5_taken 32 = .ok (.iload_n 1, 1) := by decide +kernel
theorem dX5_taken_33 : decode cX5_taken 33 = .ok (.iload_n 3, 1) := by decide +kernel
theorem dX5_taken_34 : decode cX5_taken 34 = .ok (.invokevirtual 217, 3) := by decide +kernel
theorem dX5_taken_37 : decode cX5_taken 37 = .ok (.aload_n 0, 1) := by decide +kernel
theorem dX5_taken_38 : decode cX5_taken 38 = .ok (.getfield 12, 3) := by decide +kernel
theorem dX5_taken_41 : decode cX5_taken 41 = .ok (.getfield 231, 3) := by decide +kernel
theorem dX5_taken_44 : decode cX5_taken 44 = .ok (.iload_n 3, 1) := by decide +kernel
theorem dX5_taken_45 : decode cX5_taken 45 = .ok (.iaload, 1) := by decide +kernel
theorem dX5_taken_46 : decode cX5_taken 46 = .ok (.isub, 1) := by decide +kernel
theorem dX5_taken_47 : decode cX5_taken 47 = .ok (.invokestatic 234, 3) := by decide +kernel
theorem dX5_taken_50 : decode cX5_taken 50 = .ok (.iadd, 1) := by decide +kernel
theorem dX5_taken_51 : decode cX5_taken 51 = .ok (.istore_n 2, 1) := by decide +kernel
theorem dX5_taken_52 : decode cX5_taken 52 = .ok (.iinc 3 1, 3) := by decide +kernel
theorem dX5_taken_55 : decode cX5_taken 55 = .ok (.goto (-41), 3) := by decide +kernel
theorem dX5_taken_58 : decode cX5_taken 58 = .ok (.iload_n 2, 1) := by decide +kernel
theorem dX5_taken_59 : decode cX5_taken 59 = .ok (.ireturn, 1) := by decide +kernel
theorem dX5_room_0 : decode cX5_room 0 = .ok (.aload_n 0, 1) := by decide +kernel
theorem dX5_room_1 : decode cX5_room 1 = .ok (.iload_n 1, 1) := by decide +kernel
theorem dX5_room_2 : decode cX5_room 2 = .ok (.invokevirtual 62, 3) := by decide +kernel
theorem dX5_room_5 : decode cX5_room 5 = .ok (.ifCond .eq 14, 3) := by decide +kernel
theorem dX5_room_8 : decode cX5_room 8 = .ok (.iload_n 2, 1) := by decide +kernel
theorem dX5_room_9 : decode cX5_room 9 = .ok (.ifCond .lt 10, 3) := by decide +kernel
theorem dX5_room_12 : decode cX5_room 12 = .ok (.iload_n 2, 1) := by decide +kernel
theorem dX5_room_13 : decode cX5_room 13 = .ok (.sipush 200, 3) := by decide +kernel
theorem dX5_room_16 : decode cX5_room 16 = .ok (.if_icmp .le 5, 3) := by decide +kernel
theorem dX5_room_19 : decode cX5_room 19 = .ok (.iconst (-1), 1) := by decide +kernel
theorem dX5_room_20 : decode cX5_room 20 = .ok (.ireturn, 1) := by decide +kernel
theorem dX5_room_21 : decode cX5_room 21 = .ok (.aload_n 0, 1) := by decide +kernel
theorem dX5_room_22 : decode cX5_room 22 = .ok (.getfield 27, 3) := by decide +kernel
theorem dX5_room_25 : decode cX5_room 25 = .ok (.iload_n 1, 1) := by decide +kernel
theorem dX5_room_26 : decode cX5_room 26 = .ok (.aaload, 1) := by decide +kernel
theorem dX5_room_27 : decode cX5_room 27 = .ok (.getfield 237, 3) := by decide +kernel
theorem dX5_room_30 : decode cX5_room 30 = .ok (.iload_n 2, 1) := by decide +kernel
theorem dX5_room_31 : decode cX5_room 31 = .ok (.if_icmp .le 6, 3) := by decide +kernel
theorem dX5_room_34 : decode cX5_room 34 = .ok (.bipush (-2), 2) := by decide +kernel
theorem dX5_room_36 : decode cX5_room 36 = .ok (.ireturn, 1) := by decide +kernel
theorem dX5_room_37 : decode cX5_room 37 = .ok (.aload_n 0, 1) := by decide +kernel
theorem dX5_room_38 : decode cX5_room 38 = .ok (.getfield 41, 3) := by decide +kernel
theorem dX5_room_41 : decode cX5_room 41 = .ok (.iload_n 1, 1) := by decide +kernel
theorem dX5_room_42 : decode cX5_room 42 = .ok (.iaload, 1) := by decide +kernel
theorem dX5_room_43 : decode cX5_room 43 = .ok (.istore_n 3, 1) := by decide +kernel
theorem dX5_room_44 : decode cX5_room 44 = .ok (.aload_n 0, 1) := by decide +kernel
theorem dX5_room_45 : decode cX5_room 45 = .ok (.getfield 41, 3) := by decide +kernel
theorem dX5_room_48 : decode cX5_room 48 = .ok (.iload_n 1, 1) := by decide +kernel
theorem dX5_room_49 : decode cX5_room 49 = .ok (.iload_n 2, 1) := by decide +kernel
theorem dX5_room_50 : decode cX5_room 50 = .ok (.iastore, 1) := by decide +kernel
theorem dX5_room_51 : decode cX5_room 51 = .ok (.iload_n 3, 1) := by decide +kernel
theorem dX5_room_52 : decode cX5_room 52 = .ok (.ireturn, 1) := by decide +kernel
theorem dX5_pieces_0 : decode cX5_pieces 0 = .ok (.aload_n 0, 1) := by decide +kernel
theorem dX5_pieces_1 : decode cX5_pieces 1 = .ok (.iload_n 1, 1) := by decide +kernel
theorem dX5_pieces_2 : decode cX5_pieces 2 = .ok (.invokevirtual 62, 3) := by decide +kernel
theorem dX5_pieces_5 : decode cX5_pieces 5 = .ok (.ifCond .eq 24, 3) := by decide +kernel
theorem dX5_pieces_8 : decode cX5_pieces 8 = .ok (.iload_n 2, 1) := by decide +kernel
theorem dX5_pieces_9 : decode cX5_pieces 9 = .ok (.ifCond .lt 20, 3) := by decide +kernel
theorem dX5_pieces_12 : decode cX5_pieces 12 = .ok (.iload_n 2, 1) := by decide +kernel
theorem dX5_pieces_13 : decode cX5_pieces 13 = .ok (.iconst 2, 1) := by decide +kernel
theorem dX5_pieces_14 : decode cX5_pieces 14 = .ok (.if_icmp .gt 15, 3) := by decide +kernel
theorem dX5_pieces_17 : decode cX5_pieces 17 = .ok (.iload_n 2, 1) := by decide +kernel
theorem dX5_pieces_18 : decode cX5_pieces 18 = .ok (.iconst 2, 1) := by decide +kernel
theorem dX5_pieces_19 : decode cX5_pieces 19 = .ok (.if_icmp .ne 12, 3) := by decide +kernel
theorem dX5_pieces_22 : decode cX5_pieces 22 = .ok (.iload_n 3, 1) := by decide +kernel
theorem dX5_pieces_23 : decode cX5_pieces 23 = .ok (.invokestatic 66, 3) := by decide +kernel
theorem dX5_pieces_26 : decode cX5_pieces 26 = .ok (.ifCond .ne 5, 3) := by decide +kernel
theorem dX5_pieces_29 : decode cX5_pieces 29 = .ok (.iconst (-1), 1) := by decide +kernel
theorem dX5_pieces_30 : decode cX5_pieces 30 = .ok (.ireturn, 1) := by decide +kernel
theorem dX5_pieces_31 : decode cX5_pieces 31 = .ok (.iload_n 2, 1) := by decide +kernel
theorem dX5_pieces_32 : decode cX5_pieces 32 = .ok (.ifCond .ne 13, 3) := by decide +kernel
theorem dX5_pieces_35 : decode cX5_pieces 35 = .ok (.aload_n 0, 1) := by decide +kernel
theorem dX5_pieces_36 : decode cX5_pieces 36 = .ok (.getfield 27, 3) := by decide +kernel
theorem dX5_pieces_39 : decode cX5_pieces 39 = .ok (.iload_n 1, 1) := by decide +kernel
theorem dX5_pieces_40 : decode cX5_pieces 40 = .ok (.aaload, 1) := by decide +kernel
theorem dX5_pieces_41 : decode cX5_pieces 41 = .ok (.getfield 240, 3) := by decide +kernel
theorem dX5_pieces_44 : decode cX5_pieces 44 = .ok (.ireturn, 1) := by decide +kernel
theorem dX5_pieces_45 : decode cX5_pieces 45 = .ok (.iload_n 2, 1) := by decide +kernel
theorem dX5_pieces_46 : decode cX5_pieces 46 = .ok (.iconst 1, 1) := by decide +kernel
theorem dX5_pieces_47 : decode cX5_pieces 47 = .ok (.if_icmp .ne 13, 3) := by decide +kernel
theorem dX5_pieces_50 : decode cX5_pieces 50 = .ok (.aload_n 0, 1) := by decide +kernel
theorem dX5_pieces_51 : decode cX5_pieces 51 = .ok (.getfield 27, 3) := by decide +kernel
theorem dX5_pieces_54 : decode cX5_pieces 54 = .ok (.iload_n 1, 1) := by decide +kernel
theorem dX5_pieces_55 : decode cX5_pieces 55 = .ok (.aaload, 1) := by decide +kernel
theorem dX5_pieces_56 : decode cX5_pieces 56 = .ok (.getfield 237, 3) := by decide +kernel
theorem dX5_pieces_59 : decode cX5_pieces 59 = .ok (.ireturn, 1) := by decide +kernel
theorem dX5_pieces_60 : decode cX5_pieces 60 = .ok (.aload_n 0, 1) := by decide +kernel
theorem dX5_pieces_61 : decode cX5_pieces 61 = .ok (.iload_n 1, 1) := by decide +kernel
theorem dX5_pieces_62 : decode cX5_pieces 62 = .ok (.invokevirtual 72, 3) := by decide +kernel
theorem dX5_pieces_65 : decode cX5_pieces 65 = .ok (.aload_n 0, 1) := by decide +kernel
theorem dX5_pieces_66 : decode cX5_pieces 66 = .ok (.getfield 21, 3) := by decide +kernel
theorem dX5_pieces_69 : decode cX5_pieces 69 = .ok (.iload_n 3, 1) := by decide +kernel
theorem dX5_pieces_70 : decode cX5_pieces 70 = .ok (.invokevirtual 110, 3) := by decide +kernel
theorem dX5_pieces_73 : decode cX5_pieces 73 = .ok (.ifCond .ne 6, 3) := by decide +kernel
theorem dX5_pieces_76 : decode cX5_pieces 76 = .ok (.bipush (-2), 2) := by decide +kernel
theorem dX5_pieces_78 : decode cX5_pieces 78 = .ok (.ireturn, 1) := by decide +kernel
theorem dX5_pieces_79 : decode cX5_pieces 79 = .ok (.aload_n 0, 1) := by decide +kernel
theorem dX5_pieces_80 : decode cX5_pieces 80 = .ok (.iload_n 3, 1) := by decide +kernel
theorem dX5_pieces_81 : decode cX5_pieces 81 = .ok (.invokevirtual 241, 3) := by decide +kernel
theorem dX5_pieces_84 : decode cX5_pieces 84 = .ok (.aload_n 0, 1) := by decide +kernel
theorem dX5_pieces_85 : decode cX5_pieces 85 = .ok (.getfield 34, 3) := by decide +kernel
theorem dX5_pieces_88 : decode cX5_pieces 88 = .ok (.aload_n 0, 1) := by decide +kernel
theorem dX5_pieces_89 : decode cX5_pieces 89 = .ok (.getfield 27, 3) := by decide +kernel
theorem dX5_pieces_92 : decode cX5_pieces 92 = .ok (.iload_n 1, 1) := by decide +kernel
theorem dX5_pieces_93 : decode cX5_pieces 93 = .ok (.aaload, 1) := by decide +kernel
theorem dX5_pieces_94 : decode cX5_pieces 94 = .ok (.invokevirtual 244, 3) := by decide +kernel
theorem dX5_pieces_97 : decode cX5_pieces 97 = .ok (.aload_n 0, 1) := by decide +kernel
theorem dX5_pieces_98 : decode cX5_pieces 98 = .ok (.getfield 34, 3) := by decide +kernel
theorem dX5_pieces_101 : decode cX5_pieces 101 = .ok (.getfield 240, 3) := by decide +kernel
theorem dX5_pieces_104 : decode cX5_pieces 104 = .ok (.ireturn, 1) := by decide +kernel
theorem dX5_fetch_0 : decode cX5_fetch 0 = .ok (.aload_n 0, 1) := by decide +kernel
theorem dX5_fetch_1 : decode cX5_fetch 1 = .ok (.iload_n 1, 1) := by decide +kernel
theorem dX5_fetch_2 : decode cX5_fetch 2 = .ok (.invokevirtual 62, 3) := by decide +kernel
theorem dX5_fetch_5 : decode cX5_fetch 5 = .ok (.ifCond .eq 10, 3) := by decide +kernel
theorem dX5_fetch_8 : decode cX5_fetch 8 = .ok (.iload_n 2, 1) := by decide +kernel
theorem dX5_fetch_9 : decode cX5_fetch 9 = .ok (.invokestatic 66, 3) := by decide +kernel
theorem dX5_fetch_12 : decode cX5_fetch 12 = .ok (.ifCond .ne 5, 3) := by decide +kernel
theorem dX5_fetch_15 : decode cX5_fetch 15 = .ok (.iconst (-1), 1) := by decide +kernel
theorem dX5_fetch_16 : decode cX5_fetch 16 = .ok (.ireturn, 1) := by decide +kernel
theorem dX5_fetch_17 : decode cX5_fetch 17 = .ok (.aload_n 0, 1) := by decide +kernel
theorem dX5_fetch_18 : decode cX5_fetch 18 = .ok (.iload_n 1, 1) := by decide +kernel
theorem dX5_fetch_19 : decode cX5_fetch 19 = .ok (.invokevirtual 72, 3) := by decide +kernel
theorem dX5_fetch_22 : decode cX5_fetch 22 = .ok (.aload_n 0, 1) := by decide +kernel
theorem dX5_fetch_23 : decode cX5_fetch 23 = .ok (.getfield 21, 3) := by decide +kernel
theorem dX5_fetch_26 : decode cX5_fetch 26 = .ok (.iload_n 2, 1) := by decide +kernel
theorem dX5_fetch_27 : decode cX5_fetch 27 = .ok (.invokevirtual 110, 3) := by decide +kernel
theorem dX5_fetch_30 : decode cX5_fetch 30 = .ok (.ifCond .ne 6, 3) := by decide +kernel
theorem dX5_fetch_33 : decode cX5_fetch 33 = .ok (.bipush (-2), 2) := by decide +kernel
theorem dX5_fetch_35 : decode cX5_fetch 35 = .ok (.ireturn, 1) := by decide +kernel
theorem dX5_fetch_36 : decode cX5_fetch 36 = .ok (.aload_n 0, 1) := by decide +kernel
theorem dX5_fetch_37 : decode cX5_fetch 37 = .ok (.iload_n 2, 1) := by decide +kernel
theorem dX5_fetch_38 : decode cX5_fetch 38 = .ok (.invokevirtual 241, 3) := by decide +kernel
theorem dX5_fetch_41 : decode cX5_fetch 41 = .ok (.aload_n 0, 1) := by decide +kernel
theorem dX5_fetch_42 : decode cX5_fetch 42 = .ok (.getfield 34, 3) := by decide +kernel
theorem dX5_fetch_45 : decode cX5_fetch 45 = .ok (.aload_n 0, 1) := by decide +kernel
theorem dX5_fetch_46 : decode cX5_fetch 46 = .ok (.getfield 27, 3) := by decide +kernel
theorem dX5_fetch_49 : decode cX5_fetch 49 = .ok (.iload_n 1, 1) := by decide +kernel
theorem dX5_fetch_50 : decode cX5_fetch 50 = .ok (.aaload, 1) := by decide +kernel
theorem dX5_fetch_51 : decode cX5_fetch 51 = .ok (.invokevirtual 244, 3) := by decide +kernel
theorem dX5_fetch_54 : decode cX5_fetch 54 = .ok (.aload_n 0, 1) := by decide +kernel
theorem dX5_fetch_55 : decode cX5_fetch 55 = .ok (.iload_n 1, 1) := by decide +kernel
theorem dX5_fetch_56 : decode cX5_fetch 56 = .ok (.invokevirtual 247, 3) := by decide +kernel
theorem dX5_fetch_59 : decode cX5_fetch 59 = .ok (.ifCond .eq 11, 3) := by decide +kernel
theorem dX5_fetch_62 : decode cX5_fetch 62 = .ok (.aload_n 0, 1) := by decide +kernel
theorem dX5_fetch_63 : decode cX5_fetch 63 = .ok (.iload_n 1, 1) := by decide +kernel
theorem dX5_fetch_64 : decode cX5_fetch 64 = .ok (.invokevirtual 120, 3) := by decide +kernel
theorem dX5_fetch_67 : decode cX5_fetch 67 = .ok (.ifCond .ne 6, 3) := by decide +kernel
theorem dX5_fetch_70 : decode cX5_fetch 70 = .ok (.bipush (-2), 2) := by decide +kernel
theorem dX5_fetch_72 : decode cX5_fetch 72 = .ok (.ireturn, 1) := by decide +kernel
theorem dX5_fetch_73 : decode cX5_fetch 73 = .ok (.aload_n 0, 1) := by decide +kernel
theorem dX5_fetch_74 : decode cX5_fetch 74 = .ok (.getfield 27, 3) := by decide +kernel
theorem dX5_fetch_77 : decode cX5_fetch 77 = .ok (.iload_n 1, 1) := by decide +kernel
theorem dX5_fetch_78 : decode cX5_fetch 78 = .ok (.aaload, 1) := by decide +kernel
theorem dX5_fetch_79 : decode cX5_fetch 79 = .ok (.aload_n 0, 1) := by decide +kernel
theorem dX5_fetch_80 : decode cX5_fetch 80 = .ok (.getfield 34, 3) := by decide +kernel
theorem dX5_fetch_83 : decode cX5_fetch 83 = .ok (.invokevirtual 130, 3) := by decide +kernel
theorem dX5_fetch_86 : decode cX5_fetch 86 = .ok (.aload_n 0, 1) := by decide +kernel
theorem dX5_fetch_87 : decode cX5_fetch 87 = .ok (.getfield 34, 3) := by decide +kernel
theorem dX5_fetch_90 : decode cX5_fetch 90 = .ok (.getfield 237, 3) := by decide +kernel
theorem dX5_fetch_93 : decode cX5_fetch 93 = .ok (.ireturn, 1) := by decide +kernel
theorem dX5_away_0 : decode cX5_away 0 = .ok (.aload_n 0, 1) := by decide +kernel
theorem dX5_away_1 : decode cX5_away 1 = .ok (.iload_n 1, 1) := by decide +kernel
theorem dX5_away_2 : decode cX5_away 2 = .ok (.invokevirtual 62, 3) := by decide +kernel
theorem dX5_away_5 : decode cX5_away 5 = .ok (.ifCond .eq 10, 3) := by decide +kernel
theorem dX5_away_8 : decode cX5_away 8 = .ok (.iload_n 2, 1) := by decide +kernel
theorem dX5_away_9 : decode cX5_away 9 = .ok (.invokestatic 66, 3) := by decide +kernel
theorem dX5_away_12 : decode cX5_away 12 = .ok (.ifCond .ne 5, 3) := by decide +kernel
theorem dX5_away_15 : decode cX5_away 15 = .ok (.iconst (-1), 1) := by decide +kernel
theorem dX5_away_16 : decode cX5_away 16 = .ok (.ireturn, 1) := by decide +kernel
theorem dX5_away_17 : decode cX5_away 17 = .ok (.aload_n 0, 1) := by decide +kernel
theorem dX5_away_18 : decode cX5_away 18 = .ok (.iload_n 1, 1) := by decide +kernel
theorem dX5_away_19 : decode cX5_away 19 = .ok (.invokevirtual 72, 3) := by decide +kernel
theorem dX5_away_22 : decode cX5_away 22 = .ok (.aload_n 0, 1) := by decide +kernel
theorem dX5_away_23 : decode cX5_away 23 = .ok (.getfield 21, 3) := by decide +kernel
theorem dX5_away_26 : decode cX5_away 26 = .ok (.iload_n 2, 1) := by decide +kernel
theorem dX5_away_27 : decode cX5_away 27 = .ok (.invokevirtual 110, 3) := by decide +kernel
theorem dX5_away_30 : decode cX5_away 30 = .ok (.ifCond .ne 6, 3) := by decide +kernel
theorem dX5_away_33 : decode cX5_away 33 = .ok (.bipush (-2), 2) := by decide +kernel
theorem dX5_away_35 : decode cX5_away 35 = .ok (.ireturn, 1) := by decide +kernel
theorem dX5_away_36 : decode cX5_away 36 = .ok (.aload_n 0, 1) := by decide +kernel
theorem dX5_away_37 : decode cX5_away 37 = .ok (.iload_n 2, 1) := by decide +kernel
theorem dX5_away_38 : decode cX5_away 38 = .ok (.invokevirtual 241, 3) := by decide +kernel
theorem dX5_away_41 : decode cX5_away 41 = .ok (.aload_n 0, 1) := by decide +kernel
theorem dX5_away_42 : decode cX5_away 42 = .ok (.getfield 34, 3) := by decide +kernel
theorem dX5_away_45 : decode cX5_away 45 = .ok (.aload_n 0, 1) := by decide +kernel
theorem dX5_away_46 : decode cX5_away 46 = .ok (.getfield 27, 3) := by decide +kernel
theorem dX5_away_49 : decode cX5_away 49 = .ok (.iload_n 1, 1) := by decide +kernel
theorem dX5_away_50 : decode cX5_away 50 = .ok (.aaload, 1) := by decide +kernel
theorem dX5_away_51 : decode cX5_away 51 = .ok (.invokevirtual 250, 3) := by decide +kernel
theorem dX5_away_54 : decode cX5_away 54 = .ok (.aload_n 0, 1) := by decide +kernel
theorem dX5_away_55 : decode cX5_away 55 = .ok (.iload_n 2, 1) := by decide +kernel
theorem dX5_away_56 : decode cX5_away 56 = .ok (.invokevirtual 253, 3) := by decide +kernel
theorem dX5_away_59 : decode cX5_away 59 = .ok (.aload_n 0, 1) := by decide +kernel
theorem dX5_away_60 : decode cX5_away 60 = .ok (.getfield 34, 3) := by decide +kernel
theorem dX5_away_63 : decode cX5_away 63 = .ok (.aload_n 0, 1) := by decide +kernel
theorem dX5_away_64 : decode cX5_away 64 = .ok (.getfield 38, 3) := by decide +kernel
theorem dX5_away_67 : decode cX5_away 67 = .ok (.invokevirtual 244, 3) := by decide +kernel
theorem dX5_away_70 : decode cX5_away 70 = .ok (.aload_n 0, 1) := by decide +kernel
theorem dX5_away_71 : decode cX5_away 71 = .ok (.iload_n 1, 1) := by decide +kernel
theorem dX5_away_72 : decode cX5_away 72 = .ok (.invokevirtual 247, 3) := by decide +kernel
theorem dX5_away_75 : decode cX5_away 75 = .ok (.ifCond .ne 6, 3) := by decide +kernel
theorem dX5_away_78 : decode cX5_away 78 = .ok (.bipush (-2), 2) := by decide +kernel
theorem dX5_away_80 : decode cX5_away 80 = .ok (.ireturn, 1) := by decide +kernel
theorem dX5_away_81 : decode cX5_away 81 = .ok (.aload_n 0, 1) := by decide +kernel
theorem dX5_away_82 : decode cX5_away 82 = .ok (.getfield 27, 3) := by decide +kernel
theorem dX5_away_85 : decode cX5_away 85 = .ok (.iload_n 1, 1) := by decide +kernel
theorem dX5_away_86 : decode cX5_away 86 = .ok (.aaload, 1) := by decide +kernel
theorem dX5_away_87 : decode cX5_away 87 = .ok (.aload_n 0, 1) := by decide +kernel
theorem dX5_away_88 : decode cX5_away 88 = .ok (.getfield 34, 3) := by decide +kernel
theorem dX5_away_91 : decode cX5_away 91 = .ok (.invokevirtual 244, 3) := by decide +kernel
theorem dX5_away_94 : decode cX5_away 94 = .ok (.aload_n 0, 1) := by decide +kernel
theorem dX5_away_95 : decode cX5_away 95 = .ok (.getfield 34, 3) := by decide +kernel
theorem dX5_away_98 : decode cX5_away 98 = .ok (.getfield 237, 3) := by decide +kernel
theorem dX5_away_101 : decode cX5_away 101 = .ok (.ireturn, 1) := by decide +kernel
theorem dX5_night_0 : decode cX5_night 0 = .ok (.aload_n 0, 1) := by decide +kernel
theorem dX5_night_1 : decode cX5_night 1 = .ok (.getfield 12, 3) := by decide +kernel
theorem dX5_night_4 : decode cX5_night 4 = .ok (.getfield 214, 3) := by decide +kernel
theorem dX5_night_7 : decode cX5_night 7 = .ok (.bipush 29, 2) := by decide +kernel
theorem dX5_night_9 : decode cX5_night 9 = .ok (.if_icmp .lt 6, 3) := by decide +kernel
theorem dX5_night_12 : decode cX5_night 12 = .ok (.bipush (-2), 2) := by decide +kernel
theorem dX5_night_14 : decode cX5_night 14 = .ok (.ireturn, 1) := by decide +kernel
theorem dX5_night_15 : decode cX5_night 15 = .ok (.aload_n 0, 1) := by decide +kernel
theorem dX5_night_16 : decode cX5_night 16 = .ok (.getfield 12, 3) := by decide +kernel
theorem dX5_night_19 : decode cX5_night 19 = .ok (.invokevirtual 256, 3) := by decide +kernel
theorem dX5_night_22 : decode cX5_night 22 = .ok (.aload_n 0, 1) := by decide +kernel
theorem dX5_night_23 : decode cX5_night 23 = .ok (.getfield 12, 3) := by decide +kernel
theorem dX5_night_26 : decode cX5_night 26 = .ok (.getfield 214, 3) := by decide +kernel
theorem dX5_night_29 : decode cX5_night 29 = .ok (.ireturn, 1) := by decide +kernel
theorem dX5_share_0 : decode cX5_share 0 = .ok (.iload_n 1, 1) := by decide +kernel
theorem dX5_share_1 : decode cX5_share 1 = .ok (.invokestatic 259, 3) := by decide +kernel
theorem dX5_share_4 : decode cX5_share 4 = .ok (.ifCond .eq 10, 3) := by decide +kernel
theorem dX5_share_7 : decode cX5_share 7 = .ok (.iload_n 2, 1) := by decide +kernel
theorem dX5_share_8 : decode cX5_share 8 = .ok (.invokestatic 66, 3) := by decide +kernel
theorem dX5_share_11 : decode cX5_share 11 = .ok (.ifCond .ne 5, 3) := by decide +kernel
theorem dX5_share_14 : decode cX5_share 14 = .ok (.iconst (-1), 1) := by decide +kernel
theorem dX5_share_15 : decode cX5_share 15 = .ok (.ireturn, 1) := by decide +kernel
theorem dX5_share_16 : decode cX5_share 16 = .ok (.aload_n 0, 1) := by decide +kernel
theorem dX5_share_17 : decode cX5_share 17 = .ok (.getfield 48, 3) := by decide +kernel
theorem dX5_share_20 : decode cX5_share 20 = .ok (.getfield 262, 3) := by decide +kernel
theorem dX5_share_23 : decode cX5_share 23 = .ok (.bipush 20, 2) := by decide +kernel
theorem dX5_share_25 : decode cX5_share 25 = .ok (.if_icmp .lt 6, 3) := by decide +kernel
theorem dX5_share_28 : decode cX5_share 28 = .ok (.bipush (-3), 2) := by decide +kernel
theorem dX5_share_30 : decode cX5_share 30 = .ok (.ireturn, 1) := by decide +kernel
theorem dX5_share_31 : decode cX5_share 31 = .ok (.aload_n 0, 1) := by decide +kernel
theorem dX5_share_32 : decode cX5_share 32 = .ok (.getfield 48, 3) := by decide +kernel
theorem dX5_share_35 : decode cX5_share 35 = .ok (.iload_n 1, 1) := by decide +kernel
theorem dX5_share_36 : decode cX5_share 36 = .ok (.iload_n 2, 1) := by decide +kernel
theorem dX5_share_37 : decode cX5_share 37 = .ok (.aload_n 0, 1) := by decide +kernel
theorem dX5_share_38 : decode cX5_share 38 = .ok (.getfield 12, 3) := by decide +kernel
theorem dX5_share_41 : decode cX5_share 41 = .ok (.getfield 214, 3) := by decide +kernel
theorem dX5_share_44 : decode cX5_share 44 = .ok (.invokevirtual 263, 3) := by decide +kernel
theorem dX5_share_47 : decode cX5_share 47 = .ok (.ireturn, 1) := by decide +kernel
theorem dX5_take_0 : decode cX5_take 0 = .ok (.iload_n 1, 1) := by decide +kernel
theorem dX5_take_1 : decode cX5_take 1 = .ok (.ifCond .lt 14, 3) := by decide +kernel
theorem dX5_take_4 : decode cX5_take 4 = .ok (.iload_n 1, 1) := by decide +kernel
theorem dX5_take_5 : decode cX5_take 5 = .ok (.aload_n 0, 1) := by decide +kernel
theorem dX5_take_6 : decode cX5_take 6 = .ok (.getfield 48, 3) := by decide +kernel
theorem dX5_take_9 : decode cX5_take 9 = .ok (.getfield 262, 3) := by decide +kernel
theorem dX5_take_12 : decode cX5_take 12 = .ok (.if_icmp .lt 5, 3) := by decide +kernel
theorem dX5_take_15 : decode cX5_take 15 = .ok (.iconst (-1), 1) := by decide +kernel
theorem dX5_take_16 : decode cX5_take 16 = .ok (.ireturn, 1) := by decide +kernel
theorem dX5_take_17 : decode cX5_take 17 = .ok (.aload_n 0, 1) := by decide +kernel
theorem dX5_take_18 : decode cX5_take 18 = .ok (.getfield 48, 3) := by decide +kernel
theorem dX5_take_21 : decode cX5_take 21 = .ok (.getfield 266, 3) := by decide +kernel
theorem dX5_take_24 : decode cX5_take 24 = .ok (.iload_n 1, 1) := by decide +kernel
theorem dX5_take_25 : decode cX5_take 25 = .ok (.iaload, 1) := by decide +kernel
theorem dX5_take_26 : decode cX5_take 26 = .ok (.bipush (-9), 2) := by decide +kernel
theorem dX5_take_28 : decode cX5_take 28 = .ok (.if_icmp .eq 6, 3) := by decide +kernel
theorem dX5_take_31 : decode cX5_take 31 = .ok (.bipush (-2), 2) := by decide +kernel
theorem dX5_take_33 : decode cX5_take 33 = .ok (.ireturn, 1) := by decide +kernel
theorem dX5_take_34 : decode cX5_take 34 = .ok (.aload_n 0, 1) := by decide +kernel
theorem dX5_take_35 : decode cX5_take 35 = .ok (.getfield 48, 3) := by decide +kernel
theorem dX5_take_38 : decode cX5_take 38 = .ok (.getfield 266, 3) := by decide +kernel
theorem dX5_take_41 : decode cX5_take 41 = .ok (.iload_n 1, 1) := by decide +kernel
theorem dX5_take_42 : decode cX5_take 42 = .ok (.aload_n 0, 1) := by decide +kernel
theorem dX5_take_43 : decode cX5_take 43 = .ok (.getfield 12, 3) := by decide +kernel
theorem dX5_take_46 : decode cX5_take 46 = .ok (.getfield 214, 3) := by decide +kernel
theorem dX5_take_49 : decode cX5_take 49 = .ok (.iastore, 1) := by decide +kernel
theorem dX5_take_50 : decode cX5_take 50 = .ok (.aload_n 0, 1) := by decide +kernel
theorem dX5_take_51 : decode cX5_take 51 = .ok (.getfield 48, 3) := by decide +kernel
theorem dX5_take_54 : decode cX5_take 54 = .ok (.getfield 269, 3) := by decide +kernel
theorem dX5_take_57 : decode cX5_take 57 = .ok (.iload_n 1, 1) := by decide +kernel
theorem dX5_take_58 : decode cX5_take 58 = .ok (.iaload, 1) := by decide +kernel
theorem dX5_take_59 : decode cX5_take 59 = .ok (.ireturn, 1) := by decide +kernel
theorem dX5_could_0 : decode cX5_could 0 = .ok (.iload_n 1, 1) := by decide +kernel
theorem dX5_could_1 : decode cX5_could 1 = .ok (.invokestatic 259, 3) := by decide +kernel
theorem dX5_could_4 : decode cX5_could 4 = .ok (.ifCond .eq 27, 3) := by decide +kernel
theorem dX5_could_7 : decode cX5_could 7 = .ok (.aload_n 0, 1) := by decide +kernel
theorem dX5_could_8 : decode cX5_could 8 = .ok (.iload_n 2, 1) := by decide +kernel
theorem dX5_could_9 : decode cX5_could 9 = .ok (.invokevirtual 62, 3) := by decide +kernel
theorem dX5_could_12 : decode cX5_could 12 = .ok (.ifCond .eq 19, 3) := by decide +kernel
theorem dX5_could_15 : decode cX5_could 15 = .ok (.iload_n 3, 1) := by decide +kernel
theorem dX5_could_16 : decode cX5_could 16 = .ok (.invokestatic 66, 3) := by decide +kernel
theorem dX5_could_19 : decode cX5_could 19 = .ok (.ifCond .eq 12, 3) := by decide +kernel
theorem dX5_could_22 : decode cX5_could 22 = .ok (.aload_n 0, 1) := by decide +kernel
theorem dX5_could_23 : decode cX5_could 23 = .ok (.iload 4, 2) := by decide +kernel
theorem dX5_could_25 : decode cX5_could 25 = .ok (.invokevirtual 165, 3) := by decide +kernel
theorem dX5_could_28 : decode cX5_could 28 = .ok (.ifCond .ne 5, 3) := by decide +kernel
theorem dX5_could_31 : decode cX5_could 31 = .ok (.iconst (-1), 1) := by decide +kernel
theorem dX5_could_32 : decode cX5_could 32 = .ok (.ireturn, 1) := by decide +kernel
theorem dX5_could_33 : decode cX5_could 33 = .ok (.aload_n 0, 1) := by decide +kernel
theorem dX5_could_34 : decode cX5_could 34 = .ok (.getfield 21, 3) := by decide +kernel
theorem dX5_could_37 : decode cX5_could 37 = .ok (.iload_n 2, 1) := by decide +kernel
theorem dX5_could_38 : decode cX5_could 38 = .ok (.iload 4, 2) := by decide +kernel
theorem dX5_could_40 : decode cX5_could 40 = .ok (.aload_n 0, 1) := by decide +kernel
theorem dX5_could_41 : decode cX5_could 41 = .ok (.getfield 59, 3) := by decide +kernel
theorem dX5_could_44 : decode cX5_could 44 = .ok (.invokevirtual 168, 3) := by decide +kernel
theorem dX5_could_47 : decode cX5_could 47 = .ok (.aload_n 0, 1) := by decide +kernel
theorem dX5_could_48 : decode cX5_could 48 = .ok (.getfield 21, 3) := by decide +kernel
theorem dX5_could_51 : decode cX5_could 51 = .ok (.iload_n 3, 1) := by decide +kernel
theorem dX5_could_52 : decode cX5_could 52 = .ok (.invokevirtual 107, 3) := by decide +kernel
theorem dX5_could_55 : decode cX5_could 55 = .ok (.ifCond .ne 6, 3) := by decide +kernel
theorem dX5_could_58 : decode cX5_could 58 = .ok (.bipush (-2), 2) := by decide +kernel
theorem dX5_could_60 : decode cX5_could 60 = .ok (.ireturn, 1) := by decide +kernel
theorem dX5_could_61 : decode cX5_could 61 = .ok (.iconst 0, 1) := by decide +kernel
theorem dX5_could_62 : decode cX5_could 62 = .ok (.istore 5, 2) := by decide +kernel
theorem dX5_could_64 : decode cX5_could 64 = .ok (.iload 5, 2) := by decide +kernel
theorem dX5_could_66 : decode cX5_could 66 = .ok (.aload_n 0, 1) := by decide +kernel
theorem dX5_could_67 : decode cX5_could 67 = .ok (.getfield 48, 3) := by decide +kernel
theorem dX5_could_70 : decode cX5_could 70 = .ok (.getfield 262, 3) := by decide +kernel
theorem dX5_could_73 : decode cX5_could 73 = .ok (.if_icmp .ge 47, 3) := by decide +kernel
theorem dX5_could_76 : decode cX5_could 76 = .ok (.aload_n 0, 1) := by decide +kernel
theorem dX5_could_77 : decode cX5_could 77 = .ok (.getfield 48, 3) := by decide +kernel
theorem dX5_could_80 : decode cX5_could 80 = .ok (.iload 5, 2) := by decide +kernel
theorem dX5_could_82 : decode cX5_could 82 = .ok (.iload_n 1, 1) := by decide +kernel
theorem dX5_could_83 : decode cX5_could 83 = .ok (.iload 4, 2) := by decide +kernel
theorem dX5_could_85 : decode cX5_could 85 = .ok (.invokevirtual 272, 3) := by decide +kernel
theorem dX5_could_88 : decode cX5_could 88 = .ok (.ifCond .eq 26, 3) := by decide +kernel
theorem dX5_could_91 : decode cX5_could 91 = .ok (.aload_n 0, 1) := by decide +kernel
theorem dX5_could_92 : decode cX5_could 92 = .ok (.getfield 21, 3) := by decide +kernel
theorem dX5_could_95 : decode cX5_could 95 = .ok (.iload_n 3, 1) := by decide +kernel
theorem dX5_could_96 : decode cX5_could 96 = .ok (.aload_n 0, 1) := by decide +kernel
theorem dX5_could_97 : decode cX5_could 97 = .ok (.getfield 48, 3) := by decide +kernel
theorem dX5_could_100 : decode cX5_could 100 = .ok (.getfield 276, 3) := by decide +kernel
theorem dX5_could_103 : decode cX5_could 103 = .ok (.iload 5, 2) := by decide +kernel
theorem dX5_could_105 : decode cX5_could 105 = .ok (.iaload, 1) := by decide +kernel
theorem dX5_could_106 : decode cX5_could 106 = .ok (.invokevirtual 278, 3) := by decide +kernel
theorem dX5_could_109 : decode cX5_could 109 = .ok (.ifCond .eq 5, 3) := by decide +kernel
theorem dX5_could_112 : decode cX5_could 112 = .ok (.iconst 1, 1) := by decide +kernel
theorem dX5_could_113 : decode cX5_could 113 = .ok (.ireturn, 1) := by decide +kernel
theorem dX5_could_114 : decode cX5_could 114 = .ok (.iinc 5 1, 3) := by decide +kernel
theorem dX5_could_117 : decode cX5_could 117 = .ok (.goto (-53), 3) := by decide +kernel
theorem dX5_could_120 : decode cX5_could 120 = .ok (.iconst 0, 1) := by decide +kernel
theorem dX5_could_121 : decode cX5_could 121 = .ok (.ireturn, 1) := by decide +kernel
theorem dX5_odd_0 : decode cX5_odd 0 = .ok (.aload_n 0, 1) := by decide +kernel
theorem dX5_odd_1 : decode cX5_odd 1 = .ok (.iload_n 1, 1) := by decide +kernel
theorem dX5_odd_2 : decode cX5_odd 2 = .ok (.invokevirtual 62, 3) := by decide +kernel
theorem dX5_odd_5 : decode cX5_odd 5 = .ok (.ifCond .eq 20, 3) := by decide +kernel
theorem dX5_odd_8 : decode cX5_odd 8 = .ok (.aload_n 0, 1) := by decide +kernel
theorem dX5_odd_9 : decode cX5_odd 9 = .ok (.iload_n 2, 1) := by decide +kernel
theorem dX5_odd_10 : decode cX5_odd 10 = .ok (.invokevirtual 165, 3) := by decide +kernel
theorem dX5_odd_13 : decode cX5_odd 13 = .ok (.ifCond .eq 12, 3) := by decide +kernel
theorem dX5_odd_16 : decode cX5_odd 16 = .ok (.iload_n 3, 1) := by decide +kernel
theorem dX5_odd_17 : decode cX5_odd 17 = .ok (.ifCond .lt 8, 3) := by decide +kernel
theorem dX5_odd_20 : decode cX5_odd 20 = .ok (.iload_n 3, 1) := by decide +kernel
theorem dX5_odd_21 : decode cX5_odd 21 = .ok (.iconst 1, 1) := by decide +kernel
theorem dX5_odd_22 : decode cX5_odd 22 = .ok (.if_icmp .le 7, 3) := by decide +kernel
theorem dX5_odd_25 : decode cX5_odd 25 = .ok (.ldc2_w 281, 3) := by decide +kernel
theorem dX5_odd_28 : decode cX5_odd 28 = .ok (.lreturn, 1) := by decide +kernel
theorem dX5_odd_29 : decode cX5_odd 29 = .ok (.aload_n 0, 1) := by decide +kernel
theorem dX5_odd_30 : decode cX5_odd 30 = .ok (.getfield 12, 3) := by decide +kernel
theorem dX5_odd_33 : decode cX5_odd 33 = .ok (.getfield 214, 3) := by decide +kernel
theorem dX5_odd_36 : decode cX5_odd 36 = .ok (.iconst 1, 1) := by decide +kernel
theorem dX5_odd_37 : decode cX5_odd 37 = .ok (.iadd, 1) := by decide +kernel
theorem dX5_odd_38 : decode cX5_odd 38 = .ok (.istore 4, 2) := by decide +kernel
theorem dX5_odd_40 : decode cX5_odd 40 = .ok (.aload_n 0, 1) := by decide +kernel
theorem dX5_odd_41 : decode cX5_odd 41 = .ok (.getfield 12, 3) := by decide +kernel
theorem dX5_odd_44 : decode cX5_odd 44 = .ok (.getfield 138, 3) := by decide +kernel
theorem dX5_odd_47 : decode cX5_odd 47 = .ok (.iload_n 1, 1) := by decide +kernel
theorem dX5_odd_48 : decode cX5_odd 48 = .ok (.iaload, 1) := by decide +kernel
theorem dX5_odd_49 : decode cX5_odd 49 = .ok (.istore 5, 2) := by decide +kernel
theorem dX5_odd_51 : decode cX5_odd 51 = .ok (.iload 4, 2) := by decide +kernel
theorem dX5_odd_53 : decode cX5_odd 53 = .ok (.bipush 8, 2) := by decide +kernel
theorem dX5_odd_55 : decode cX5_odd 55 = .ok (.if_icmp .gt 10, 3) := by decide +kernel
theorem dX5_odd_58 : decode cX5_odd 58 = .ok (.iload 5, 2) := by decide +kernel
theorem dX5_odd_60 : decode cX5_odd 60 = .ok (.bipush 12, 2) := by decide +kernel
theorem dX5_odd_62 : decode cX5_odd 62 = .ok (.if_icmp .le 7, 3) := by decide +kernel
theorem dX5_odd_65 : decode cX5_odd 65 = .ok (.ldc2_w 283, 3) := by decide +kernel
theorem dX5_odd_68 : decode cX5_odd 68 = .ok (.lreturn, 1) := by decide +kernel
theorem dX5_odd_69 : decode cX5_odd 69 = .ok (.iload_n 3, 1) := by decide +kernel
theorem dX5_odd_70 : decode cX5_odd 70 = .ok (.iconst 1, 1) := by decide +kernel
theorem dX5_odd_71 : decode cX5_odd 71 = .ok (.if_icmp .ne 11, 3) := by decide +kernel
theorem dX5_odd_74 : decode cX5_odd 74 = .ok (.iload 4, 2) := by decide +kernel
theorem dX5_odd_76 : decode cX5_odd 76 = .ok (.iload 5, 2) := by decide +kernel
theorem dX5_odd_78 : decode cX5_odd 78 = .ok (.invokestatic 285, 3) := by decide +kernel
theorem dX5_odd_81 : decode cX5_odd 81 = .ok (.lreturn, 1) := by decide +kernel
theorem dX5_odd_82 : decode cX5_odd 82 = .ok (.aload_n 0, 1) := by decide +kernel
theorem dX5_odd_83 : decode cX5_odd 83 = .ok (.getfield 12, 3) := by decide +kernel
theorem dX5_odd_86 : decode cX5_odd 86 = .ok (.iload_n 1, 1) := by decide +kernel
theorem dX5_odd_87 : decode cX5_odd 87 = .ok (.iload_n 2, 1) := by decide +kernel
theorem dX5_odd_88 : decode cX5_odd 88 = .ok (.invokevirtual 289, 3) := by decide +kernel
theorem dX5_odd_91 : decode cX5_odd 91 = .ok (.iload 5, 2) := by decide +kernel
theorem dX5_odd_93 : decode cX5_odd 93 = .ok (.iload 4, 2) := by decide +kernel
theorem dX5_odd_95 : decode cX5_odd 95 = .ok (.invokestatic 292, 3) := by decide +kernel
theorem dX5_odd_98 : decode cX5_odd 98 = .ok (.lreturn, 1) := by decide +kernel
theorem dX5_count_0 : decode cX5_count 0 = .ok (.iload_n 1, 1) := by decide +kernel
theorem dX5_count_1 : decode cX5_count 1 = .ok (.tableswitch 81 0 5 #[39, 44, 52, 60, 68, 73], 39) := by decide +kernel
theorem dX5_count_40 : decode cX5_count 40 = .ok (.aload_n 0, 1) := by decide +kernel
theorem dX5_count_41 : decode cX5_count 41 = .ok (.getfield 55, 3) := by decide +kernel
theorem dX5_count_44 : decode cX5_count 44 = .ok (.ireturn, 1) := by decide +kernel
theorem dX5_count_45 : decode cX5_count 45 = .ok (.aload_n 0, 1) := by decide +kernel
theorem dX5_count_46 : decode cX5_count 46 = .ok (.getfield 12, 3) := by decide +kernel
theorem dX5_count_49 : decode cX5_count 49 = .ok (.getfield 296, 3) := by decide +kernel
theorem dX5_count_52 : decode cX5_count 52 = .ok (.ireturn, 1) := by decide +kernel
theorem dX5_count_53 : decode cX5_count 53 = .ok (.aload_n 0, 1) := by decide +kernel
theorem dX5_count_54 : decode cX5_count 54 = .ok (.getfield 12, 3) := by decide +kernel
theorem dX5_count_57 : decode cX5_count 57 = .ok (.getfield 214, 3) := by decide +kernel
theorem dX5_count_60 : decode cX5_count 60 = .ok (.ireturn, 1) := by decide +kernel
theorem dX5_count_61 : decode cX5_count 61 = .ok (.aload_n 0, 1) := by decide +kernel
theorem dX5_count_62 : decode cX5_count 62 = .ok (.getfield 48, 3) := by decide +kernel
theorem dX5_count_65 : decode cX5_count 65 = .ok (.invokevirtual 299, 3) := by decide +kernel
theorem dX5_count_68 : decode cX5_count 68 = .ok (.ireturn, 1) := by decide +kernel
theorem dX5_count_69 : decode cX5_count 69 = .ok (.aload_n 0, 1) := by decide +kernel
theorem dX5_count_70 : decode cX5_count 70 = .ok (.getfield 59, 3) := by decide +kernel
theorem dX5_count_73 : decode cX5_count 73 = .ok (.ireturn, 1) := by decide +kernel
theorem dX5_count_74 : decode cX5_count 74 = .ok (.aload_n 0, 1) := by decide +kernel
theorem dX5_count_75 : decode cX5_count 75 = .ok (.getfield 12, 3) := by decide +kernel
theorem dX5_count_78 : decode cX5_count 78 = .ok (.invokevirtual 302, 3) := by decide +kernel
theorem dX5_count_81 : decode cX5_count 81 = .ok (.ireturn, 1) := by decide +kernel
theorem dX5_count_82 : decode cX5_count 82 = .ok (.iconst (-1), 1) := by decide +kernel
theorem dX5_count_83 : decode cX5_count 83 = .ok (.ireturn, 1) := by decide +kernel
theorem dX5_trace_0 : decode cX5_trace 0 = .ok (.aload_n 0, 1) := by decide +kernel
theorem dX5_trace_1 : decode cX5_trace 1 = .ok (.getfield 305, 3) := by decide +kernel
theorem dX5_trace_4 : decode cX5_trace 4 = .ok (.lreturn, 1) := by decide +kernel
theorem dX5_beginAnew_0 : decode cX5_beginAnew 0 = .ok (.aload_n 0, 1) := by decide +kernel
theorem dX5_beginAnew_1 : decode cX5_beginAnew 1 = .ok (.iload_n 1, 1) := by decide +kernel
theorem dX5_beginAnew_2 : decode cX5_beginAnew 2 = .ok (.putfield 55, 3) := by decide +kernel
theorem dX5_beginAnew_5 : decode cX5_beginAnew 5 = .ok (.aload_n 0, 1) := by decide +kernel
theorem dX5_beginAnew_6 : decode cX5_beginAnew 6 = .ok (.getfield 12, 3) := by decide +kernel
theorem dX5_beginAnew_9 : decode cX5_beginAnew 9 = .ok (.invokevirtual 308, 3) := by decide +kernel
theorem dX5_beginAnew_12 : decode cX5_beginAnew 12 = .ok (.aload_n 0, 1) := by decide +kernel
theorem dX5_beginAnew_13 : decode cX5_beginAnew 13 = .ok (.getfield 48, 3) := by decide +kernel
theorem dX5_beginAnew_16 : decode cX5_beginAnew 16 = .ok (.iconst 0, 1) := by decide +kernel
theorem dX5_beginAnew_17 : decode cX5_beginAnew 17 = .ok (.putfield 262, 3) := by decide +kernel
theorem dX5_beginAnew_20 : decode cX5_beginAnew 20 = .ok (.iconst 0, 1) := by decide +kernel
theorem dX5_beginAnew_21 : decode cX5_beginAnew 21 = .ok (.istore_n 2, 1) := by decide +kernel
theorem dX5_beginAnew_22 : decode cX5_beginAnew 22 = .ok (.iload_n 2, 1) := by decide +kernel
theorem dX5_beginAnew_23 : decode cX5_beginAnew 23 = .ok (.iconst 4, 1) := by decide +kernel
theorem dX5_beginAnew_24 : decode cX5_beginAnew 24 = .ok (.if_icmp .ge 26, 3) := by decide +kernel
theorem dX5_beginAnew_27 : decode cX5_beginAnew 27 = .ok (.aload_n 0, 1) := by decide +kernel
theorem dX5_beginAnew_28 : decode cX5_beginAnew 28 = .ok (.getfield 27, 3) := by decide +kernel
theorem dX5_beginAnew_31 : decode cX5_beginAnew 31 = .ok (.iload_n 2, 1) := by decide +kernel
theorem dX5_beginAnew_32 : decode cX5_beginAnew 32 = .ok (.aaload, 1) := by decide +kernel
theorem dX5_beginAnew_33 : decode cX5_beginAnew 33 = .ok (.invokevirtual 113, 3) := by decide +kernel
theorem dX5_beginAnew_36 : decode cX5_beginAnew 36 = .ok (.aload_n 0, 1) := by decide +kernel
theorem dX5_beginAnew_37 : decode cX5_beginAnew 37 = .ok (.getfield 41, 3) := by decide +kernel
theorem dX5_beginAnew_40 : decode cX5_beginAnew 40 = .ok (.iload_n 2, 1) := by decide +kernel
theorem dX5_beginAnew_41 : decode cX5_beginAnew 41 = .ok (.bipush 20, 2) := by decide +kernel
theorem dX5_beginAnew_43 : decode cX5_beginAnew 43 = .ok (.iastore, 1) := by decide +kernel
theorem dX5_beginAnew_44 : decode cX5_beginAnew 44 = .ok (.iinc 2 1, 3) := by decide +kernel
theorem dX5_beginAnew_47 : decode cX5_beginAnew 47 = .ok (.goto (-25), 3) := by decide +kernel
theorem dX5_beginAnew_50 : decode cX5_beginAnew 50 = .ok (.return_, 1) := by decide +kernel
theorem dX5_isMachine_0 : decode cX5_isMachine 0 = .ok (.iload_n 1, 1) := by decide +kernel
theorem dX5_isMachine_1 : decode cX5_isMachine 1 = .ok (.ifCond .lt 15, 3) := by decide +kernel
theorem dX5_isMachine_4 : decode cX5_isMachine 4 = .ok (.iload_n 1, 1) := by decide +kernel
theorem dX5_isMachine_5 : decode cX5_isMachine 5 = .ok (.aload_n 0, 1) := by decide +kernel
theorem dX5_isMachine_6 : decode cX5_isMachine 6 = .ok (.getfield 55, 3) := by decide +kernel
theorem dX5_isMachine_9 : decode cX5_isMachine 9 = .ok (.if_icmp .ge 7, 3) := by decide +kernel
theorem dX5_isMachine_12 : decode cX5_isMachine 12 = .ok (.iconst 1, 1) := by decide +kernel
theorem dX5_isMachine_13 : decode cX5_isMachine 13 = .ok (.goto 4, 3) := by decide +kernel
theorem dX5_isMachine_16 : decode cX5_isMachine 16 = .ok (.iconst 0, 1) := by decide +kernel
theorem dX5_isMachine_17 : decode cX5_isMachine 17 = .ok (.ireturn, 1) := by decide +kernel
theorem dX5_isThing_0 : decode cX5_isThing 0 = .ok (.iload_n 0, 1) := by decide +kernel
theorem dX5_isThing_1 : decode cX5_isThing 1 = .ok (.ifCond .lt 13, 3) := by decide +kernel
theorem dX5_isThing_4 : decode cX5_isThing 4 = .ok (.iload_n 0, 1) := by decide +kernel
theorem dX5_isThing_5 : decode cX5_isThing 5 = .ok (.bipush 12, 2) := by decide +kernel
theorem dX5_isThing_7 : decode cX5_isThing 7 = .ok (.if_icmp .ge 7, 3) := by decide +kernel
theorem dX5_isThing_10 : decode cX5_isThing 10 = .ok (.iconst 1, 1) := by decide +kernel
theorem dX5_isThing_11 : decode cX5_isThing 11 = .ok (.goto 4, 3) := by decide +kernel
theorem dX5_isThing_14 : decode cX5_isThing 14 = .ok (.iconst 0, 1) := by decide +kernel
theorem dX5_isThing_15 : decode cX5_isThing 15 = .ok (.ireturn, 1) := by decide +kernel
theorem dX5_isOwnName_0 : decode cX5_isOwnName 0 = .ok (.iload_n 0, 1) := by decide +kernel
theorem dX5_isOwnName_1 : decode cX5_isOwnName 1 = .ok (.ifCond .lt 13, 3) := by decide +kernel
theorem dX5_isOwnName_4 : decode cX5_isOwnName 4 = .ok (.iload_n 0, 1) := by decide +kernel
theorem dX5_isOwnName_5 : decode cX5_isOwnName 5 = .ok (.bipush 10, 2) := by decide +kernel
theorem dX5_isOwnName_7 : decode cX5_isOwnName 7 = .ok (.if_icmp .ge 7, 3) := by decide +kernel
theorem dX5_isOwnName_10 : decode cX5_isOwnName 10 = .ok (.iconst 1, 1) := by decide +kernel
theorem dX5_isOwnName_11 : decode cX5_isOwnName 11 = .ok (.goto 4, 3) := by decide +kernel
theorem dX5_isOwnName_14 : decode cX5_isOwnName 14 = .ok (.iconst 0, 1) := by decide +kernel
theorem dX5_isOwnName_15 : decode cX5_isOwnName 15 = .ok (.ireturn, 1) := by decide +kernel
theorem dX5_isPerson_0 : decode cX5_isPerson 0 = .ok (.iload_n 0, 1) := by decide +kernel
theorem dX5_isPerson_1 : decode cX5_isPerson 1 = .ok (.ifCond .lt 13, 3) := by decide +kernel
theorem dX5_isPerson_4 : decode cX5_isPerson 4 = .ok (.iload_n 0, 1) := by decide +kernel
theorem dX5_isPerson_5 : decode cX5_isPerson 5 = .ok (.bipush 8, 2) := by decide +kernel
theorem dX5_isPerson_7 : decode cX5_isPerson 7 = .ok (.if_icmp .ge 7, 3) := by decide +kernel
theorem dX5_isPerson_10 : decode cX5_isPerson 10 = .ok (.iconst 1, 1) := by decide +kernel
theorem dX5_isPerson_11 : decode cX5_isPerson 11 = .ok (.goto 4, 3) := by decide +kernel
theorem dX5_isPerson_14 : decode cX5_isPerson 14 = .ok (.iconst 0, 1) := by decide +kernel
theorem dX5_isPerson_15 : decode cX5_isPerson 15 = .ok (.ireturn, 1) := by decide +kernel
theorem dX5_isDay_0 : decode cX5_isDay 0 = .ok (.iload_n 1, 1) := by decide +kernel
theorem dX5_isDay_1 : decode cX5_isDay 1 = .ok (.ifCond .lt 18, 3) := by decide +kernel
theorem dX5_isDay_4 : decode cX5_isDay 4 = .ok (.iload_n 1, 1) := by decide +kernel
theorem dX5_isDay_5 : decode cX5_isDay 5 = .ok (.aload_n 0, 1) := by decide +kernel
theorem dX5_isDay_6 : decode cX5_isDay 6 = .ok (.getfield 12, 3) := by decide +kernel
theorem dX5_isDay_9 : decode cX5_isDay 9 = .ok (.getfield 214, 3) := by decide +kernel
theorem dX5_isDay_12 : decode cX5_isDay 12 = .ok (.if_icmp .gt 7, 3) := by decide +kernel
theorem dX5_isDay_15 : decode cX5_isDay 15 = .ok (.iconst 1, 1) := by decide +kernel
theorem dX5_isDay_16 : decode cX5_isDay 16 = .ok (.goto 4, 3) := by decide +kernel
theorem dX5_isDay_19 : decode cX5_isDay 19 = .ok (.iconst 0, 1) := by decide +kernel
theorem dX5_isDay_20 : decode cX5_isDay 20 = .ok (.ireturn, 1) := by decide +kernel
theorem dX5_growNow_0 : decode cX5_growNow 0 = .ok (.aload_n 0, 1) := by decide +kernel
theorem dX5_growNow_1 : decode cX5_growNow 1 = .ok (.getfield 21, 3) := by decide +kernel
theorem dX5_growNow_4 : decode cX5_growNow 4 = .ok (.iload_n 1, 1) := by decide +kernel
theorem dX5_growNow_5 : decode cX5_growNow 5 = .ok (.aload_n 0, 1) := by decide +kernel
theorem dX5_growNow_6 : decode cX5_growNow 6 = .ok (.getfield 12, 3) := by decide +kernel
theorem dX5_growNow_9 : decode cX5_growNow 9 = .ok (.getfield 214, 3) := by decide +kernel
theorem dX5_growNow_12 : decode cX5_growNow 12 = .ok (.aload_n 0, 1) := by decide +kernel
theorem dX5_growNow_13 : decode cX5_growNow 13 = .ok (.getfield 59, 3) := by decide +kernel
theorem dX5_growNow_16 : decode cX5_growNow 16 = .ok (.invokevirtual 168, 3) := by decide +kernel
theorem dX5_growNow_19 : decode cX5_growNow 19 = .ok (.return_, 1) := by decide +kernel
theorem dX5_byteOf_0 : decode cX5_byteOf 0 = .ok (.lload_n 0, 1) := by decide +kernel
theorem dX5_byteOf_1 : decode cX5_byteOf 1 = .ok (.bipush 8, 2) := by decide +kernel
theorem dX5_byteOf_3 : decode cX5_byteOf 3 = .ok (.iload_n 2, 1) := by decide +kernel
theorem dX5_byteOf_4 : decode cX5_byteOf 4 = .ok (.iconst 1, 1) := by decide +kernel
theorem dX5_byteOf_5 : decode cX5_byteOf 5 = .ok (.isub, 1) := by decide +kernel
theorem dX5_byteOf_6 : decode cX5_byteOf 6 = .ok (.iload_n 3, 1) := by decide +kernel
theorem dX5_byteOf_7 : decode cX5_byteOf 7 = .ok (.isub, 1) := by decide +kernel
theorem dX5_byteOf_8 : decode cX5_byteOf 8 = .ok (.imul, 1) := by decide +kernel
theorem dX5_byteOf_9 : decode cX5_byteOf 9 = .ok (.lushr, 1) := by decide +kernel
theorem dX5_byteOf_10 : decode cX5_byteOf 10 = .ok (.l2i, 1) := by decide +kernel
theorem dX5_byteOf_11 : decode cX5_byteOf 11 = .ok (.sipush 255, 3) := by decide +kernel
theorem dX5_byteOf_14 : decode cX5_byteOf 14 = .ok (.iand, 1) := by decide +kernel
theorem dX5_byteOf_15 : decode cX5_byteOf 15 = .ok (.ireturn, 1) := by decide +kernel
theorem dX5_bulkAsThing_0 : decode cX5_bulkAsThing 0 = .ok (.aload_n 0, 1) := by decide +kernel
theorem dX5_bulkAsThing_1 : decode cX5_bulkAsThing 1 = .ok (.dup, 1) := by decide +kernel
theorem dX5_bulkAsThing_2 : decode cX5_bulkAsThing 2 = .ok (.getfield 305, 3) := by decide +kernel
theorem dX5_bulkAsThing_5 : decode cX5_bulkAsThing 5 = .ok (.lconst 1, 1) := by decide +kernel
theorem dX5_bulkAsThing_6 : decode cX5_bulkAsThing 6 = .ok (.ladd, 1) := by decide +kernel
theorem dX5_bulkAsThing_7 : decode cX5_bulkAsThing 7 = .ok (.putfield 305, 3) := by decide +kernel
theorem dX5_bulkAsThing_10 : decode cX5_bulkAsThing 10 = .ok (.iconst 4, 1) := by decide +kernel
theorem dX5_bulkAsThing_11 : decode cX5_bulkAsThing 11 = .ok (.aload_n 0, 1) := by decide +kernel
theorem dX5_bulkAsThing_12 : decode cX5_bulkAsThing 12 = .ok (.getfield 21, 3) := by decide +kernel
theorem dX5_bulkAsThing_15 : decode cX5_bulkAsThing 15 = .ok (.getfield 179, 3) := by decide +kernel
theorem dX5_bulkAsThing_18 : decode cX5_bulkAsThing 18 = .ok (.iload_n 1, 1) := by decide +kernel
theorem dX5_bulkAsThing_19 : decode cX5_bulkAsThing 19 = .ok (.iaload, 1) := by decide +kernel
theorem dX5_bulkAsThing_20 : decode cX5_bulkAsThing 20 = .ok (.iadd, 1) := by decide +kernel
theorem dX5_bulkAsThing_21 : decode cX5_bulkAsThing 21 = .ok (.ireturn, 1) := by decide +kernel
theorem dX5_bulkAsFile_0 : decode cX5_bulkAsFile 0 = .ok (.aload_n 0, 1) := by decide +kernel
theorem dX5_bulkAsFile_1 : decode cX5_bulkAsFile 1 = .ok (.dup, 1) := by decide +kernel
theorem dX5_bulkAsFile_2 : decode cX5_bulkAsFile 2 = .ok (.getfield 305, 3) := by decide +kernel
theorem dX5_bulkAsFile_5 : decode cX5_bulkAsFile 5 = .ok (.ldc2_w 309, 3) := by decide +kernel
theorem dX5_bulkAsFile_8 : decode cX5_bulkAsFile 8 = .ok (.ladd, 1) := by decide +kernel
theorem dX5_bulkAsFile_9 : decode cX5_bulkAsFile 9 = .ok (.putfield 305, 3) := by decide +kernel
theorem dX5_bulkAsFile_12 : decode cX5_bulkAsFile 12 = .ok (.aload_n 0, 1) := by decide +kernel
theorem dX5_bulkAsFile_13 : decode cX5_bulkAsFile 13 = .ok (.iload_n 1, 1) := by decide +kernel
theorem dX5_bulkAsFile_14 : decode cX5_bulkAsFile 14 = .ok (.invokevirtual 203, 3) := by decide +kernel
theorem dX5_bulkAsFile_17 : decode cX5_bulkAsFile 17 = .ok (.aload_n 0, 1) := by decide +kernel
theorem dX5_bulkAsFile_18 : decode cX5_bulkAsFile 18 = .ok (.getfield 21, 3) := by decide +kernel
theorem dX5_bulkAsFile_21 : decode cX5_bulkAsFile 21 = .ok (.iload_n 1, 1) := by decide +kernel
theorem dX5_bulkAsFile_22 : decode cX5_bulkAsFile 22 = .ok (.invokevirtual 311, 3) := by decide +kernel
theorem dX5_bulkAsFile_25 : decode cX5_bulkAsFile 25 = .ok (.iadd, 1) := by decide +kernel
theorem dX5_bulkAsFile_26 : decode cX5_bulkAsFile 26 = .ok (.ireturn, 1) := by decide +kernel
theorem dX5_bulkAsFolder_0 : decode cX5_bulkAsFolder 0 = .ok (.aload_n 0, 1) := by decide +kernel
theorem dX5_bulkAsFolder_1 : decode cX5_bulkAsFolder 1 = .ok (.dup, 1) := by decide +kernel
theorem dX5_bulkAsFolder_2 : decode cX5_bulkAsFolder 2 = .ok (.getfield 305, 3) := by decide +kernel
theorem dX5_bulkAsFolder_5 : decode cX5_bulkAsFolder 5 = .ok (.ldc2_w 313, 3) := by decide +kernel
theorem dX5_bulkAsFolder_8 : decode cX5_bulkAsFolder 8 = .ok (.ladd, 1) := by decide +kernel
theorem dX5_bulkAsFolder_9 : decode cX5_bulkAsFolder 9 = .ok (.putfield 305, 3) := by decide +kernel
theorem dX5_bulkAsFolder_12 : decode cX5_bulkAsFolder 12 = .ok (.aload_n 0, 1) := by decide +kernel
theorem dX5_bulkAsFolder_13 : decode cX5_bulkAsFolder 13 = .ok (.iload_n 1, 1) := by decide +kernel
theorem dX5_bulkAsFolder_14 : decode cX5_bulkAsFolder 14 = .ok (.invokevirtual 203, 3) := by decide +kernel
theorem dX5_bulkAsFolder_17 : decode cX5_bulkAsFolder 17 = .ok (.iconst 3, 1) := by decide +kernel
theorem dX5_bulkAsFolder_18 : decode cX5_bulkAsFolder 18 = .ok (.aload_n 0, 1) := by decide +kernel
theorem dX5_bulkAsFolder_19 : decode cX5_bulkAsFolder 19 = .ok (.getfield 21, 3) := by decide +kernel
theorem dX5_bulkAsFolder_22 : decode cX5_bulkAsFolder 22 = .ok (.iload_n 1, 1) := by decide +kernel
theorem dX5_bulkAsFolder_23 : decode cX5_bulkAsFolder 23 = .ok (.invokevirtual 315, 3) := by decide +kernel
theorem dX5_bulkAsFolder_26 : decode cX5_bulkAsFolder 26 = .ok (.imul, 1) := by decide +kernel
theorem dX5_bulkAsFolder_27 : decode cX5_bulkAsFolder 27 = .ok (.iadd, 1) := by decide +kernel
theorem dX5_bulkAsFolder_28 : decode cX5_bulkAsFolder 28 = .ok (.ireturn, 1) := by decide +kernel
theorem dX5_bulkAsLink_0 : decode cX5_bulkAsLink 0 = .ok (.aload_n 0, 1) := by decide +kernel
theorem dX5_bulkAsLink_1 : decode cX5_bulkAsLink 1 = .ok (.dup, 1) := by decide +kernel
theorem dX5_bulkAsLink_2 : decode cX5_bulkAsLink 2 = .ok (.getfield 305, 3) := by decide +kernel
theorem dX5_bulkAsLink_5 : decode cX5_bulkAsLink 5 = .ok (.ldc2_w 318, 3) := by decide +kernel
theorem dX5_bulkAsLink_8 : decode cX5_bulkAsLink 8 = .ok (.ladd, 1) := by decide +kernel
theorem dX5_bulkAsLink_9 : decode cX5_bulkAsLink 9 = .ok (.putfield 305, 3) := by decide +kernel
theorem dX5_bulkAsLink_12 : decode cX5_bulkAsLink 12 = .ok (.aload_n 0, 1) := by decide +kernel
theorem dX5_bulkAsLink_13 : decode cX5_bulkAsLink 13 = .ok (.iload_n 1, 1) := by decide +kernel
theorem dX5_bulkAsLink_14 : decode cX5_bulkAsLink 14 = .ok (.invokevirtual 203, 3) := by decide +kernel
theorem dX5_bulkAsLink_17 : decode cX5_bulkAsLink 17 = .ok (.iconst 2, 1) := by decide +kernel
theorem dX5_bulkAsLink_18 : decode cX5_bulkAsLink 18 = .ok (.idiv, 1) := by decide +kernel
theorem dX5_bulkAsLink_19 : decode cX5_bulkAsLink 19 = .ok (.ireturn, 1) := by decide +kernel
theorem dX5_bulkAsHeld_0 : decode cX5_bulkAsHeld 0 = .ok (.aload_n 0, 1) := by decide +kernel
theorem dX5_bulkAsHeld_1 : decode cX5_bulkAsHeld 1 = .ok (.dup, 1) := by decide +kernel
theorem dX5_bulkAsHeld_2 : decode cX5_bulkAsHeld 2 = .ok (.getfield 305, 3) := by decide +kernel
theorem dX5_bulkAsHeld_5 : decode cX5_bulkAsHeld 5 = .ok (.ldc2_w 320, 3) := by decide +kernel
theorem dX5_bulkAsHeld_8 : decode cX5_bulkAsHeld 8 = .ok (.ladd, 1) := by decide +kernel
theorem dX5_bulkAsHeld_9 : decode cX5_bulkAsHeld 9 = .ok (.putfield 305, 3) := by decide +kernel
theorem dX5_bulkAsHeld_12 : decode cX5_bulkAsHeld 12 = .ok (.aload_n 0, 1) := by decide +kernel
theorem dX5_bulkAsHeld_13 : decode cX5_bulkAsHeld 13 = .ok (.iload_n 1, 1) := by decide +kernel
theorem dX5_bulkAsHeld_14 : decode cX5_bulkAsHeld 14 = .ok (.invokevirtual 188, 3) := by decide +kernel
end
section
theorem dX5_bulkAsHeld_17 : decode cX5_bulkAsHeld 17 = .ok (.aload_n 0, 1) := by decide +kernel
theorem dX5_bulkAsHeld_18 : decode cX5_bulkAsHeld 18 = .ok (.getfield 21, 3) := by decide +kernel
theorem dX5_bulkAsHeld_21 : decode cX5_bulkAsHeld 21 = .ok (.iload_n 1, 1) := by decide +kernel
theorem dX5_bulkAsHeld_22 : decode cX5_bulkAsHeld 22 = .ok (.invokevirtual 311, 3) := by decide +kernel
theorem dX5_bulkAsHeld_25 : decode cX5_bulkAsHeld 25 = .ok (.iconst 2, 1) := by decide +kernel
theorem dX5_bulkAsHeld_26 : decode cX5_bulkAsHeld 26 = .ok (.idiv, 1) := by decide +kernel
theorem dX5_bulkAsHeld_27 : decode cX5_bulkAsHeld 27 = .ok (.isub, 1) := by decide +kernel
theorem dX5_bulkAsHeld_28 : decode cX5_bulkAsHeld 28 = .ok (.ireturn, 1) := by decide +kernel
theorem dX5_bulkAsClash_0 : decode cX5_bulkAsClash 0 = .ok (.aload_n 0, 1) := by decide +kernel
theorem dX5_bulkAsClash_1 : decode cX5_bulkAsClash 1 = .ok (.dup, 1) := by decide +kernel
theorem dX5_bulkAsClash_2 : decode cX5_bulkAsClash 2 = .ok (.getfield 305, 3) := by decide +kernel
theorem dX5_bulkAsClash_5 : decode cX5_bulkAsClash 5 = .ok (.ldc2_w 322, 3) := by decide +kernel
theorem dX5_bulkAsClash_8 : decode cX5_bulkAsClash 8 = .ok (.ladd, 1) := by decide +kernel
theorem dX5_bulkAsClash_9 : decode cX5_bulkAsClash 9 = .ok (.putfield 305, 3) := by decide +kernel
theorem dX5_bulkAsClash_12 : decode cX5_bulkAsClash 12 = .ok (.aload_n 0, 1) := by decide +kernel
theorem dX5_bulkAsClash_13 : decode cX5_bulkAsClash 13 = .ok (.iload_n 1, 1) := by decide +kernel
theorem dX5_bulkAsClash_14 : decode cX5_bulkAsClash 14 = .ok (.invokevirtual 188, 3) := by decide +kernel
theorem dX5_bulkAsClash_17 : decode cX5_bulkAsClash 17 = .ok (.iconst 5, 1) := by decide +kernel
theorem dX5_bulkAsClash_18 : decode cX5_bulkAsClash 18 = .ok (.aload_n 0, 1) := by decide +kernel
theorem dX5_bulkAsClash_19 : decode cX5_bulkAsClash 19 = .ok (.getfield 21, 3) := by decide +kernel
theorem dX5_bulkAsClash_22 : decode cX5_bulkAsClash 22 = .ok (.getfield 172, 3) := by decide +kernel
theorem dX5_bulkAsClash_25 : decode cX5_bulkAsClash 25 = .ok (.iload_n 1, 1) := by decide +kernel
theorem dX5_bulkAsClash_26 : decode cX5_bulkAsClash 26 = .ok (.iaload, 1) := by decide +kernel
theorem dX5_bulkAsClash_27 : decode cX5_bulkAsClash 27 = .ok (.imul, 1) := by decide +kernel
theorem dX5_bulkAsClash_28 : decode cX5_bulkAsClash 28 = .ok (.iadd, 1) := by decide +kernel
theorem dX5_bulkAsClash_29 : decode cX5_bulkAsClash 29 = .ok (.ireturn, 1) := by decide +kernel
theorem dX5_wantPiecesOf_0 : decode cX5_wantPiecesOf 0 = .ok (.aload_n 0, 1) := by decide +kernel
theorem dX5_wantPiecesOf_1 : decode cX5_wantPiecesOf 1 = .ok (.getfield 34, 3) := by decide +kernel
theorem dX5_wantPiecesOf_4 : decode cX5_wantPiecesOf 4 = .ok (.invokevirtual 113, 3) := by decide +kernel
theorem dX5_wantPiecesOf_7 : decode cX5_wantPiecesOf 7 = .ok (.aload_n 0, 1) := by decide +kernel
theorem dX5_wantPiecesOf_8 : decode cX5_wantPiecesOf 8 = .ok (.iload_n 1, 1) := by decide +kernel
theorem dX5_wantPiecesOf_9 : decode cX5_wantPiecesOf 9 = .ok (.aload_n 0, 1) := by decide +kernel
theorem dX5_wantPiecesOf_10 : decode cX5_wantPiecesOf 10 = .ok (.getfield 34, 3) := by decide +kernel
theorem dX5_wantPiecesOf_13 : decode cX5_wantPiecesOf 13 = .ok (.invokevirtual 324, 3) := by decide +kernel
theorem dX5_wantPiecesOf_16 : decode cX5_wantPiecesOf 16 = .ok (.return_, 1) := by decide +kernel
theorem dX5_gatherPiecesOfOthers_0 : decode cX5_gatherPiecesOfOthers 0 = .ok (.aload_n 0, 1) := by decide +kernel
theorem dX5_gatherPiecesOfOthers_1 : decode cX5_gatherPiecesOfOthers 1 = .ok (.getfield 38, 3) := by decide +kernel
theorem dX5_gatherPiecesOfOthers_4 : decode cX5_gatherPiecesOfOthers 4 = .ok (.invokevirtual 113, 3) := by decide +kernel
theorem dX5_gatherPiecesOfOthers_7 : decode cX5_gatherPiecesOfOthers 7 = .ok (.iconst 0, 1) := by decide +kernel
theorem dX5_gatherPiecesOfOthers_8 : decode cX5_gatherPiecesOfOthers 8 = .ok (.istore_n 2, 1) := by decide +kernel
theorem dX5_gatherPiecesOfOthers_9 : decode cX5_gatherPiecesOfOthers 9 = .ok (.iload_n 2, 1) := by decide +kernel
theorem dX5_gatherPiecesOfOthers_10 : decode cX5_gatherPiecesOfOthers 10 = .ok (.bipush 12, 2) := by decide +kernel
theorem dX5_gatherPiecesOfOthers_12 : decode cX5_gatherPiecesOfOthers 12 = .ok (.if_icmp .ge 34, 3) := by decide +kernel
theorem dX5_gatherPiecesOfOthers_15 : decode cX5_gatherPiecesOfOthers 15 = .ok (.iload_n 2, 1) := by decide +kernel
theorem dX5_gatherPiecesOfOthers_16 : decode cX5_gatherPiecesOfOthers 16 = .ok (.iload_n 1, 1) := by decide +kernel
theorem dX5_gatherPiecesOfOthers_17 : decode cX5_gatherPiecesOfOthers 17 = .ok (.if_icmp .eq 23, 3) := by decide +kernel
theorem dX5_gatherPiecesOfOthers_20 : decode cX5_gatherPiecesOfOthers 20 = .ok (.aload_n 0, 1) := by decide +kernel
theorem dX5_gatherPiecesOfOthers_21 : decode cX5_gatherPiecesOfOthers 21 = .ok (.getfield 21, 3) := by decide +kernel
theorem dX5_gatherPiecesOfOthers_24 : decode cX5_gatherPiecesOfOthers 24 = .ok (.iload_n 2, 1) := by decide +kernel
theorem dX5_gatherPiecesOfOthers_25 : decode cX5_gatherPiecesOfOthers 25 = .ok (.invokevirtual 110, 3) := by decide +kernel
theorem dX5_gatherPiecesOfOthers_28 : decode cX5_gatherPiecesOfOthers 28 = .ok (.ifCond .eq 12, 3) := by decide +kernel
theorem dX5_gatherPiecesOfOthers_31 : decode cX5_gatherPiecesOfOthers 31 = .ok (.aload_n 0, 1) := by decide +kernel
theorem dX5_gatherPiecesOfOthers_32 : decode cX5_gatherPiecesOfOthers 32 = .ok (.iload_n 2, 1) := by decide +kernel
theorem dX5_gatherPiecesOfOthers_33 : decode cX5_gatherPiecesOfOthers 33 = .ok (.aload_n 0, 1) := by decide +kernel
theorem dX5_gatherPiecesOfOthers_34 : decode cX5_gatherPiecesOfOthers 34 = .ok (.getfield 38, 3) := by decide +kernel
theorem dX5_gatherPiecesOfOthers_37 : decode cX5_gatherPiecesOfOthers 37 = .ok (.invokevirtual 324, 3) := by decide +kernel
theorem dX5_gatherPiecesOfOthers_40 : decode cX5_gatherPiecesOfOthers 40 = .ok (.iinc 2 1, 3) := by decide +kernel
theorem dX5_gatherPiecesOfOthers_43 : decode cX5_gatherPiecesOfOthers 43 = .ok (.goto (-34), 3) := by decide +kernel
theorem dX5_gatherPiecesOfOthers_46 : decode cX5_gatherPiecesOfOthers 46 = .ok (.return_, 1) := by decide +kernel
theorem dX5_addPiecesOf_0 : decode cX5_addPiecesOf 0 = .ok (.iconst 0, 1) := by decide +kernel
theorem dX5_addPiecesOf_1 : decode cX5_addPiecesOf 1 = .ok (.istore_n 3, 1) := by decide +kernel
theorem dX5_addPiecesOf_2 : decode cX5_addPiecesOf 2 = .ok (.iload_n 3, 1) := by decide +kernel
theorem dX5_addPiecesOf_3 : decode cX5_addPiecesOf 3 = .ok (.aload_n 0, 1) := by decide +kernel
theorem dX5_addPiecesOf_4 : decode cX5_addPiecesOf 4 = .ok (.getfield 21, 3) := by decide +kernel
theorem dX5_addPiecesOf_7 : decode cX5_addPiecesOf 7 = .ok (.getfield 172, 3) := by decide +kernel
theorem dX5_addPiecesOf_10 : decode cX5_addPiecesOf 10 = .ok (.iload_n 1, 1) := by decide +kernel
theorem dX5_addPiecesOf_11 : decode cX5_addPiecesOf 11 = .ok (.iaload, 1) := by decide +kernel
theorem dX5_addPiecesOf_12 : decode cX5_addPiecesOf 12 = .ok (.if_icmp .ge 34, 3) := by decide +kernel
theorem dX5_addPiecesOf_15 : decode cX5_addPiecesOf 15 = .ok (.aload_n 0, 1) := by decide +kernel
theorem dX5_addPiecesOf_16 : decode cX5_addPiecesOf 16 = .ok (.getfield 21, 3) := by decide +kernel
theorem dX5_addPiecesOf_19 : decode cX5_addPiecesOf 19 = .ok (.iload_n 1, 1) := by decide +kernel
theorem dX5_addPiecesOf_20 : decode cX5_addPiecesOf 20 = .ok (.iload_n 3, 1) := by decide +kernel
theorem dX5_addPiecesOf_21 : decode cX5_addPiecesOf 21 = .ok (.invokevirtual 181, 3) := by decide +kernel
theorem dX5_addPiecesOf_24 : decode cX5_addPiecesOf 24 = .ok (.astore 4, 2) := by decide +kernel
theorem dX5_addPiecesOf_26 : decode cX5_addPiecesOf 26 = .ok (.aload_n 2, 1) := by decide +kernel
theorem dX5_addPiecesOf_27 : decode cX5_addPiecesOf 27 = .ok (.aload 4, 2) := by decide +kernel
theorem dX5_addPiecesOf_29 : decode cX5_addPiecesOf 29 = .ok (.getfield 123, 3) := by decide +kernel
theorem dX5_addPiecesOf_32 : decode cX5_addPiecesOf 32 = .ok (.aload 4, 2) := by decide +kernel
theorem dX5_addPiecesOf_34 : decode cX5_addPiecesOf 34 = .ok (.getfield 127, 3) := by decide +kernel
theorem dX5_addPiecesOf_37 : decode cX5_addPiecesOf 37 = .ok (.invokevirtual 116, 3) := by decide +kernel
theorem dX5_addPiecesOf_40 : decode cX5_addPiecesOf 40 = .ok (.iinc 3 1, 3) := by decide +kernel
theorem dX5_addPiecesOf_43 : decode cX5_addPiecesOf 43 = .ok (.goto (-41), 3) := by decide +kernel
theorem dX5_addPiecesOf_46 : decode cX5_addPiecesOf 46 = .ok (.return_, 1) := by decide +kernel
theorem dX5_hasRoomForWanted_0 : decode cX5_hasRoomForWanted 0 = .ok (.aload_n 0, 1) := by decide +kernel
theorem dX5_hasRoomForWanted_1 : decode cX5_hasRoomForWanted 1 = .ok (.getfield 27, 3) := by decide +kernel
theorem dX5_hasRoomForWanted_4 : decode cX5_hasRoomForWanted 4 = .ok (.iload_n 1, 1) := by decide +kernel
theorem dX5_hasRoomForWanted_5 : decode cX5_hasRoomForWanted 5 = .ok (.aaload, 1) := by decide +kernel
theorem dX5_hasRoomForWanted_6 : decode cX5_hasRoomForWanted 6 = .ok (.astore_n 2, 1) := by decide +kernel
theorem dX5_hasRoomForWanted_7 : decode cX5_hasRoomForWanted 7 = .ok (.aload_n 2, 1) := by decide +kernel
theorem dX5_hasRoomForWanted_8 : decode cX5_hasRoomForWanted 8 = .ok (.getfield 237, 3) := by decide +kernel
theorem dX5_hasRoomForWanted_11 : decode cX5_hasRoomForWanted 11 = .ok (.aload_n 0, 1) := by decide +kernel
theorem dX5_hasRoomForWanted_12 : decode cX5_hasRoomForWanted 12 = .ok (.getfield 34, 3) := by decide +kernel
theorem dX5_hasRoomForWanted_15 : decode cX5_hasRoomForWanted 15 = .ok (.aload_n 2, 1) := by decide +kernel
theorem dX5_hasRoomForWanted_16 : decode cX5_hasRoomForWanted 16 = .ok (.invokevirtual 328, 3) := by decide +kernel
theorem dX5_hasRoomForWanted_19 : decode cX5_hasRoomForWanted 19 = .ok (.iadd, 1) := by decide +kernel
theorem dX5_hasRoomForWanted_20 : decode cX5_hasRoomForWanted 20 = .ok (.aload_n 0, 1) := by decide +kernel
theorem dX5_hasRoomForWanted_21 : decode cX5_hasRoomForWanted 21 = .ok (.getfield 41, 3) := by decide +kernel
theorem dX5_hasRoomForWanted_24 : decode cX5_hasRoomForWanted 24 = .ok (.iload_n 1, 1) := by decide +kernel
theorem dX5_hasRoomForWanted_25 : decode cX5_hasRoomForWanted 25 = .ok (.iaload, 1) := by decide +kernel
theorem dX5_hasRoomForWanted_26 : decode cX5_hasRoomForWanted 26 = .ok (.if_icmp .gt 7, 3) := by decide +kernel
theorem dX5_hasRoomForWanted_29 : decode cX5_hasRoomForWanted 29 = .ok (.iconst 1, 1) := by decide +kernel
theorem dX5_hasRoomForWanted_30 : decode cX5_hasRoomForWanted 30 = .ok (.goto 4, 3) := by decide +kernel
theorem dX5_hasRoomForWanted_33 : decode cX5_hasRoomForWanted 33 = .ok (.iconst 0, 1) := by decide +kernel
theorem dX5_hasRoomForWanted_34 : decode cX5_hasRoomForWanted 34 = .ok (.ireturn, 1) := by decide +kernel
theorem dX5_othersHaveWanted_0 : decode cX5_othersHaveWanted 0 = .ok (.iconst 0, 1) := by decide +kernel
theorem dX5_othersHaveWanted_1 : decode cX5_othersHaveWanted 1 = .ok (.istore_n 2, 1) := by decide +kernel
theorem dX5_othersHaveWanted_2 : decode cX5_othersHaveWanted 2 = .ok (.iload_n 2, 1) := by decide +kernel
theorem dX5_othersHaveWanted_3 : decode cX5_othersHaveWanted 3 = .ok (.aload_n 0, 1) := by decide +kernel
theorem dX5_othersHaveWanted_4 : decode cX5_othersHaveWanted 4 = .ok (.getfield 34, 3) := by decide +kernel
theorem dX5_othersHaveWanted_7 : decode cX5_othersHaveWanted 7 = .ok (.getfield 240, 3) := by decide +kernel
theorem dX5_othersHaveWanted_10 : decode cX5_othersHaveWanted 10 = .ok (.if_icmp .ge 82, 3) := by decide +kernel
theorem dX5_othersHaveWanted_13 : decode cX5_othersHaveWanted 13 = .ok (.iconst 0, 1) := by decide +kernel
theorem dX5_othersHaveWanted_14 : decode cX5_othersHaveWanted 14 = .ok (.istore_n 3, 1) := by decide +kernel
theorem dX5_othersHaveWanted_15 : decode cX5_othersHaveWanted 15 = .ok (.iconst 0, 1) := by decide +kernel
theorem dX5_othersHaveWanted_16 : decode cX5_othersHaveWanted 16 = .ok (.istore 4, 2) := by decide +kernel
theorem dX5_othersHaveWanted_18 : decode cX5_othersHaveWanted 18 = .ok (.iload 4, 2) := by decide +kernel
theorem dX5_othersHaveWanted_20 : decode cX5_othersHaveWanted 20 = .ok (.aload_n 0, 1) := by decide +kernel
theorem dX5_othersHaveWanted_21 : decode cX5_othersHaveWanted 21 = .ok (.getfield 55, 3) := by decide +kernel
theorem dX5_othersHaveWanted_24 : decode cX5_othersHaveWanted 24 = .ok (.if_icmp .ge 56, 3) := by decide +kernel
theorem dX5_othersHaveWanted_27 : decode cX5_othersHaveWanted 27 = .ok (.iload_n 3, 1) := by decide +kernel
theorem dX5_othersHaveWanted_28 : decode cX5_othersHaveWanted 28 = .ok (.ifCond .ne 40, 3) := by decide +kernel
theorem dX5_othersHaveWanted_31 : decode cX5_othersHaveWanted 31 = .ok (.iload 4, 2) := by decide +kernel
theorem dX5_othersHaveWanted_33 : decode cX5_othersHaveWanted 33 = .ok (.iload_n 1, 1) := by decide +kernel
theorem dX5_othersHaveWanted_34 : decode cX5_othersHaveWanted 34 = .ok (.if_icmp .eq 38, 3) := by decide +kernel
theorem dX5_othersHaveWanted_37 : decode cX5_othersHaveWanted 37 = .ok (.aload_n 0, 1) := by decide +kernel
theorem dX5_othersHaveWanted_38 : decode cX5_othersHaveWanted 38 = .ok (.getfield 27, 3) := by decide +kernel
theorem dX5_othersHaveWanted_41 : decode cX5_othersHaveWanted 41 = .ok (.iload 4, 2) := by decide +kernel
theorem dX5_othersHaveWanted_43 : decode cX5_othersHaveWanted 43 = .ok (.aaload, 1) := by decide +kernel
theorem dX5_othersHaveWanted_44 : decode cX5_othersHaveWanted 44 = .ok (.aload_n 0, 1) := by decide +kernel
theorem dX5_othersHaveWanted_45 : decode cX5_othersHaveWanted 45 = .ok (.getfield 34, 3) := by decide +kernel
theorem dX5_othersHaveWanted_48 : decode cX5_othersHaveWanted 48 = .ok (.getfield 332, 3) := by decide +kernel
theorem dX5_othersHaveWanted_51 : decode cX5_othersHaveWanted 51 = .ok (.iload_n 2, 1) := by decide +kernel
theorem dX5_othersHaveWanted_52 : decode cX5_othersHaveWanted 52 = .ok (.laload, 1) := by decide +kernel
theorem dX5_othersHaveWanted_53 : decode cX5_othersHaveWanted 53 = .ok (.aload_n 0, 1) := by decide +kernel
theorem dX5_othersHaveWanted_54 : decode cX5_othersHaveWanted 54 = .ok (.getfield 34, 3) := by decide +kernel
theorem dX5_othersHaveWanted_57 : decode cX5_othersHaveWanted 57 = .ok (.getfield 335, 3) := by decide +kernel
theorem dX5_othersHaveWanted_60 : decode cX5_othersHaveWanted 60 = .ok (.iload_n 2, 1) := by decide +kernel
theorem dX5_othersHaveWanted_61 : decode cX5_othersHaveWanted 61 = .ok (.iaload, 1) := by decide +kernel
theorem dX5_othersHaveWanted_62 : decode cX5_othersHaveWanted 62 = .ok (.invokevirtual 337, 3) := by decide +kernel
theorem dX5_othersHaveWanted_65 : decode cX5_othersHaveWanted 65 = .ok (.ifCond .eq 7, 3) := by decide +kernel
theorem dX5_othersHaveWanted_68 : decode cX5_othersHaveWanted 68 = .ok (.iconst 1, 1) := by decide +kernel
theorem dX5_othersHaveWanted_69 : decode cX5_othersHaveWanted 69 = .ok (.goto 4, 3) := by decide +kernel
theorem dX5_othersHaveWanted_72 : decode cX5_othersHaveWanted 72 = .ok (.iconst 0, 1) := by decide +kernel
theorem dX5_othersHaveWanted_73 : decode cX5_othersHaveWanted 73 = .ok (.istore_n 3, 1) := by decide +kernel
theorem dX5_othersHaveWanted_74 : decode cX5_othersHaveWanted 74 = .ok (.iinc 4 1, 3) := by decide +kernel
theorem dX5_othersHaveWanted_77 : decode cX5_othersHaveWanted 77 = .ok (.goto (-59), 3) := by decide +kernel
theorem dX5_othersHaveWanted_80 : decode cX5_othersHaveWanted 80 = .ok (.iload_n 3, 1) := by decide +kernel
theorem dX5_othersHaveWanted_81 : decode cX5_othersHaveWanted 81 = .ok (.ifCond .ne 5, 3) := by decide +kernel
theorem dX5_othersHaveWanted_84 : decode cX5_othersHaveWanted 84 = .ok (.iconst 0, 1) := by decide +kernel
theorem dX5_othersHaveWanted_85 : decode cX5_othersHaveWanted 85 = .ok (.ireturn, 1) := by decide +kernel
theorem dX5_othersHaveWanted_86 : decode cX5_othersHaveWanted 86 = .ok (.iinc 2 1, 3) := by decide +kernel
theorem dX5_othersHaveWanted_89 : decode cX5_othersHaveWanted 89 = .ok (.goto (-87), 3) := by decide +kernel
theorem dX5_othersHaveWanted_92 : decode cX5_othersHaveWanted 92 = .ok (.iconst 1, 1) := by decide +kernel
theorem dX5_othersHaveWanted_93 : decode cX5_othersHaveWanted 93 = .ok (.ireturn, 1) := by decide +kernel
theorem dX5_power_0 : decode cX5_power 0 = .ok (.lconst 1, 1) := by decide +kernel
theorem dX5_power_1 : decode cX5_power 1 = .ok (.lstore_n 2, 1) := by decide +kernel
theorem dX5_power_2 : decode cX5_power 2 = .ok (.iconst 0, 1) := by decide +kernel
theorem dX5_power_3 : decode cX5_power 3 = .ok (.istore 4, 2) := by decide +kernel
theorem dX5_power_5 : decode cX5_power 5 = .ok (.iload 4, 2) := by decide +kernel
theorem dX5_power_7 : decode cX5_power 7 = .ok (.iload_n 1, 1) := by decide +kernel
theorem dX5_power_8 : decode cX5_power 8 = .ok (.if_icmp .ge 14, 3) := by decide +kernel
theorem dX5_power_11 : decode cX5_power 11 = .ok (.lload_n 2, 1) := by decide +kernel
theorem dX5_power_12 : decode cX5_power 12 = .ok (.iload_n 0, 1) := by decide +kernel
theorem dX5_power_13 : decode cX5_power 13 = .ok (.i2l, 1) := by decide +kernel
theorem dX5_power_14 : decode cX5_power 14 = .ok (.lmul, 1) := by decide +kernel
theorem dX5_power_15 : decode cX5_power 15 = .ok (.lstore_n 2, 1) := by decide +kernel
theorem dX5_power_16 : decode cX5_power 16 = .ok (.iinc 4 1, 3) := by decide +kernel
theorem dX5_power_19 : decode cX5_power 19 = .ok (.goto (-14), 3) := by decide +kernel
theorem dX5_power_22 : decode cX5_power 22 = .ok (.lload_n 2, 1) := by decide +kernel
theorem dX5_power_23 : decode cX5_power 23 = .ok (.lreturn, 1) := by decide +kernel
theorem dX5_choose_0 : decode cX5_choose 0 = .ok (.lconst 1, 1) := by decide +kernel
theorem dX5_choose_1 : decode cX5_choose 1 = .ok (.lstore_n 2, 1) := by decide +kernel
theorem dX5_choose_2 : decode cX5_choose 2 = .ok (.iconst 0, 1) := by decide +kernel
theorem dX5_choose_3 : decode cX5_choose 3 = .ok (.istore 4, 2) := by decide +kernel
theorem dX5_choose_5 : decode cX5_choose 5 = .ok (.iload 4, 2) := by decide +kernel
theorem dX5_choose_7 : decode cX5_choose 7 = .ok (.iload_n 1, 1) := by decide +kernel
theorem dX5_choose_8 : decode cX5_choose 8 = .ok (.if_icmp .ge 23, 3) := by decide +kernel
theorem dX5_choose_11 : decode cX5_choose 11 = .ok (.lload_n 2, 1) := by decide +kernel
theorem dX5_choose_12 : decode cX5_choose 12 = .ok (.iload_n 0, 1) := by decide +kernel
theorem dX5_choose_13 : decode cX5_choose 13 = .ok (.iload 4, 2) := by decide +kernel
theorem dX5_choose_15 : decode cX5_choose 15 = .ok (.isub, 1) := by decide +kernel
theorem dX5_choose_16 : decode cX5_choose 16 = .ok (.i2l, 1) := by decide +kernel
theorem dX5_choose_17 : decode cX5_choose 17 = .ok (.lmul, 1) := by decide +kernel
theorem dX5_choose_18 : decode cX5_choose 18 = .ok (.iload 4, 2) := by decide +kernel
theorem dX5_choose_20 : decode cX5_choose 20 = .ok (.iconst 1, 1) := by decide +kernel
theorem dX5_choose_21 : decode cX5_choose 21 = .ok (.iadd, 1) := by decide +kernel
theorem dX5_choose_22 : decode cX5_choose 22 = .ok (.i2l, 1) := by decide +kernel
theorem dX5_choose_23 : decode cX5_choose 23 = .ok (.ldiv, 1) := by decide +kernel
theorem dX5_choose_24 : decode cX5_choose 24 = .ok (.lstore_n 2, 1) := by decide +kernel
theorem dX5_choose_25 : decode cX5_choose 25 = .ok (.iinc 4 1, 3) := by decide +kernel
theorem dX5_choose_28 : decode cX5_choose 28 = .ok (.goto (-23), 3) := by decide +kernel
theorem dX5_choose_31 : decode cX5_choose 31 = .ok (.lload_n 2, 1) := by decide +kernel
theorem dX5_choose_32 : decode cX5_choose 32 = .ok (.lreturn, 1) := by decide +kernel
theorem dX5_waysOfAtLeast_0 : decode cX5_waysOfAtLeast 0 = .ok (.lconst 0, 1) := by decide +kernel
theorem dX5_waysOfAtLeast_1 : decode cX5_waysOfAtLeast 1 = .ok (.lstore_n 3, 1) := by decide +kernel
theorem dX5_waysOfAtLeast_2 : decode cX5_waysOfAtLeast 2 = .ok (.iload_n 0, 1) := by decide +kernel
theorem dX5_waysOfAtLeast_3 : decode cX5_waysOfAtLeast 3 = .ok (.istore 5, 2) := by decide +kernel
theorem dX5_waysOfAtLeast_5 : decode cX5_waysOfAtLeast 5 = .ok (.iload 5, 2) := by decide +kernel
theorem dX5_waysOfAtLeast_7 : decode cX5_waysOfAtLeast 7 = .ok (.iload_n 1, 1) := by decide +kernel
theorem dX5_waysOfAtLeast_8 : decode cX5_waysOfAtLeast 8 = .ok (.if_icmp .gt 29, 3) := by decide +kernel
theorem dX5_waysOfAtLeast_11 : decode cX5_waysOfAtLeast 11 = .ok (.lload_n 3, 1) := by decide +kernel
theorem dX5_waysOfAtLeast_12 : decode cX5_waysOfAtLeast 12 = .ok (.iload_n 1, 1) := by decide +kernel
theorem dX5_waysOfAtLeast_13 : decode cX5_waysOfAtLeast 13 = .ok (.iload 5, 2) := by decide +kernel
theorem dX5_waysOfAtLeast_15 : decode cX5_waysOfAtLeast 15 = .ok (.invokestatic 341, 3) := by decide +kernel
theorem dX5_waysOfAtLeast_18 : decode cX5_waysOfAtLeast 18 = .ok (.iload_n 2, 1) := by decide +kernel
theorem dX5_waysOfAtLeast_19 : decode cX5_waysOfAtLeast 19 = .ok (.iconst 1, 1) := by decide +kernel
theorem dX5_waysOfAtLeast_20 : decode cX5_waysOfAtLeast 20 = .ok (.isub, 1) := by decide +kernel
theorem dX5_waysOfAtLeast_21 : decode cX5_waysOfAtLeast 21 = .ok (.iload_n 1, 1) := by decide +kernel
theorem dX5_waysOfAtLeast_22 : decode cX5_waysOfAtLeast 22 = .ok (.iload 5, 2) := by decide +kernel
theorem dX5_waysOfAtLeast_24 : decode cX5_waysOfAtLeast 24 = .ok (.isub, 1) := by decide +kernel
theorem dX5_waysOfAtLeast_25 : decode cX5_waysOfAtLeast 25 = .ok (.invokestatic 285, 3) := by decide +kernel
theorem dX5_waysOfAtLeast_28 : decode cX5_waysOfAtLeast 28 = .ok (.lmul, 1) := by decide +kernel
theorem dX5_waysOfAtLeast_29 : decode cX5_waysOfAtLeast 29 = .ok (.ladd, 1) := by decide +kernel
theorem dX5_waysOfAtLeast_30 : decode cX5_waysOfAtLeast 30 = .ok (.lstore_n 3, 1) := by decide +kernel
theorem dX5_waysOfAtLeast_31 : decode cX5_waysOfAtLeast 31 = .ok (.iinc 5 1, 3) := by decide +kernel
theorem dX5_waysOfAtLeast_34 : decode cX5_waysOfAtLeast 34 = .ok (.goto (-29), 3) := by decide +kernel
theorem dX5_waysOfAtLeast_37 : decode cX5_waysOfAtLeast 37 = .ok (.lload_n 3, 1) := by decide +kernel
theorem dX5_waysOfAtLeast_38 : decode cX5_waysOfAtLeast 38 = .ok (.lreturn, 1) := by decide +kernel
end
section
theorem dX6_init_0 : decode cX6_init 0 = .ok (.aload_n 0, 1) := by decide +kernel
theorem dX6_init_1 : decode cX6_init 1 = .ok (.invokespecial 1, 3) := by decide +kernel
theorem dX6_init_4 : decode cX6_init 4 = .ok (.aload_n 0, 1) := by decide +kernel
theorem dX6_init_5 : decode cX6_init 5 = .ok (.iconst 2, 1) := by decide +kernel
theorem dX6_init_6 : decode cX6_init 6 = .ok (.putfield 7, 3) := by decide +kernel
theorem dX6_init_9 : decode cX6_init 9 = .ok (.aload_n 0, 1) := by decide +kernel
theorem dX6_init_10 : decode cX6_init 10 = .ok (.iconst 4, 1) := by decide +kernel
theorem dX6_init_11 : decode cX6_init 11 = .ok (.newarray .int, 2) := by decide +kernel
theorem dX6_init_13 : decode cX6_init 13 = .ok (.putfield 13, 3) := by decide +kernel
theorem dX6_init_16 : decode cX6_init 16 = .ok (.aload_n 0, 1) := by decide +kernel
theorem dX6_init_17 : decode cX6_init 17 = .ok (.sipush 960, 3) := by decide +kernel
theorem dX6_init_20 : decode cX6_init 20 = .ok (.newarray .int, 2) := by decide +kernel
theorem dX6_init_22 : decode cX6_init 22 = .ok (.putfield 17, 3) := by decide +kernel
theorem dX6_init_25 : decode cX6_init 25 = .ok (.aload_n 0, 1) := by decide +kernel
theorem dX6_init_26 : decode cX6_init 26 = .ok (.bipush 80, 2) := by decide +kernel
theorem dX6_init_28 : decode cX6_init 28 = .ok (.newarray .long, 2) := by decide +kernel
theorem dX6_init_30 : decode cX6_init 30 = .ok (.putfield 20, 3) := by decide +kernel
theorem dX6_init_33 : decode cX6_init 33 = .ok (.aload_n 0, 1) := by decide +kernel
theorem dX6_init_34 : decode cX6_init 34 = .ok (.bipush 16, 2) := by decide +kernel
theorem dX6_init_36 : decode cX6_init 36 = .ok (.newarray .int, 2) := by decide +kernel
theorem dX6_init_38 : decode cX6_init 38 = .ok (.putfield 24, 3) := by decide +kernel
theorem dX6_init_41 : decode cX6_init 41 = .ok (.aload_n 0, 1) := by decide +kernel
theorem dX6_init_42 : decode cX6_init 42 = .ok (.sipush 480, 3) := by decide +kernel
theorem dX6_init_45 : decode cX6_init 45 = .ok (.newarray .int, 2) := by decide +kernel
theorem dX6_init_47 : decode cX6_init 47 = .ok (.putfield 27, 3) := by decide +kernel
theorem dX6_init_50 : decode cX6_init 50 = .ok (.aload_n 0, 1) := by decide +kernel
theorem dX6_init_51 : decode cX6_init 51 = .ok (.iconst 4, 1) := by decide +kernel
theorem dX6_init_52 : decode cX6_init 52 = .ok (.newarray .int, 2) := by decide +kernel
theorem dX6_init_54 : decode cX6_init 54 = .ok (.putfield 30, 3) := by decide +kernel
theorem dX6_init_57 : decode cX6_init 57 = .ok (.aload_n 0, 1) := by decide +kernel
theorem dX6_init_58 : decode cX6_init 58 = .ok (.iconst 4, 1) := by decide +kernel
theorem dX6_init_59 : decode cX6_init 59 = .ok (.newarray .int, 2) := by decide +kernel
theorem dX6_init_61 : decode cX6_init 61 = .ok (.putfield 33, 3) := by decide +kernel
theorem dX6_init_64 : decode cX6_init 64 = .ok (.aload_n 0, 1) := by decide +kernel
theorem dX6_init_65 : decode cX6_init 65 = .ok (.iconst 4, 1) := by decide +kernel
theorem dX6_init_66 : decode cX6_init 66 = .ok (.newarray .int, 2) := by decide +kernel
theorem dX6_init_68 : decode cX6_init 68 = .ok (.putfield 36, 3) := by decide +kernel
theorem dX6_init_71 : decode cX6_init 71 = .ok (.aload_n 0, 1) := by decide +kernel
theorem dX6_init_72 : decode cX6_init 72 = .ok (.iconst 4, 1) := by decide +kernel
theorem dX6_init_73 : decode cX6_init 73 = .ok (.newarray .int, 2) := by decide +kernel
theorem dX6_init_75 : decode cX6_init 75 = .ok (.putfield 39, 3) := by decide +kernel
theorem dX6_init_78 : decode cX6_init 78 = .ok (.aload_n 0, 1) := by decide +kernel
theorem dX6_init_79 : decode cX6_init 79 = .ok (.bipush 12, 2) := by decide +kernel
theorem dX6_init_81 : decode cX6_init 81 = .ok (.newarray .boolean, 2) := by decide +kernel
theorem dX6_init_83 : decode cX6_init 83 = .ok (.putfield 42, 3) := by decide +kernel
theorem dX6_init_86 : decode cX6_init 86 = .ok (.aload_n 0, 1) := by decide +kernel
theorem dX6_init_87 : decode cX6_init 87 = .ok (.bipush 12, 2) := by decide +kernel
theorem dX6_init_89 : decode cX6_init 89 = .ok (.newarray .boolean, 2) := by decide +kernel
theorem dX6_init_91 : decode cX6_init 91 = .ok (.putfield 46, 3) := by decide +kernel
theorem dX6_init_94 : decode cX6_init 94 = .ok (.aload_n 0, 1) := by decide +kernel
theorem dX6_init_95 : decode cX6_init 95 = .ok (.bipush 12, 2) := by decide +kernel
theorem dX6_init_97 : decode cX6_init 97 = .ok (.newarray .int, 2) := by decide +kernel
theorem dX6_init_99 : decode cX6_init 99 = .ok (.putfield 49, 3) := by decide +kernel
theorem dX6_init_102 : decode cX6_init 102 = .ok (.aload_n 0, 1) := by decide +kernel
theorem dX6_init_103 : decode cX6_init 103 = .ok (.bipush 12, 2) := by decide +kernel
theorem dX6_init_105 : decode cX6_init 105 = .ok (.newarray .int, 2) := by decide +kernel
theorem dX6_init_107 : decode cX6_init 107 = .ok (.putfield 52, 3) := by decide +kernel
theorem dX6_init_110 : decode cX6_init 110 = .ok (.aload_n 0, 1) := by decide +kernel
theorem dX6_init_111 : decode cX6_init 111 = .ok (.bipush 12, 2) := by decide +kernel
theorem dX6_init_113 : decode cX6_init 113 = .ok (.newarray .int, 2) := by decide +kernel
theorem dX6_init_115 : decode cX6_init 115 = .ok (.putfield 55, 3) := by decide +kernel
theorem dX6_init_118 : decode cX6_init 118 = .ok (.aload_n 0, 1) := by decide +kernel
theorem dX6_init_119 : decode cX6_init 119 = .ok (.bipush 12, 2) := by decide +kernel
theorem dX6_init_121 : decode cX6_init 121 = .ok (.newarray .int, 2) := by decide +kernel
theorem dX6_init_123 : decode cX6_init 123 = .ok (.putfield 58, 3) := by decide +kernel
theorem dX6_init_126 : decode cX6_init 126 = .ok (.aload_n 0, 1) := by decide +kernel
theorem dX6_init_127 : decode cX6_init 127 = .ok (.bipush 12, 2) := by decide +kernel
theorem dX6_init_129 : decode cX6_init 129 = .ok (.newarray .int, 2) := by decide +kernel
theorem dX6_init_131 : decode cX6_init 131 = .ok (.putfield 61, 3) := by decide +kernel
theorem dX6_init_134 : decode cX6_init 134 = .ok (.aload_n 0, 1) := by decide +kernel
theorem dX6_init_135 : decode cX6_init 135 = .ok (.bipush 12, 2) := by decide +kernel
theorem dX6_init_137 : decode cX6_init 137 = .ok (.newarray .int, 2) := by decide +kernel
theorem dX6_init_139 : decode cX6_init 139 = .ok (.putfield 64, 3) := by decide +kernel
theorem dX6_init_142 : decode cX6_init 142 = .ok (.aload_n 0, 1) := by decide +kernel
theorem dX6_init_143 : decode cX6_init 143 = .ok (.sipush 192, 3) := by decide +kernel
theorem dX6_init_146 : decode cX6_init 146 = .ok (.newarray .int, 2) := by decide +kernel
theorem dX6_init_148 : decode cX6_init 148 = .ok (.putfield 67, 3) := by decide +kernel
theorem dX6_init_151 : decode cX6_init 151 = .ok (.aload_n 0, 1) := by decide +kernel
theorem dX6_init_152 : decode cX6_init 152 = .ok (.bipush 12, 2) := by decide +kernel
theorem dX6_init_154 : decode cX6_init 154 = .ok (.newarray .boolean, 2) := by decide +kernel
theorem dX6_init_156 : decode cX6_init 156 = .ok (.putfield 70, 3) := by decide +kernel
theorem dX6_init_159 : decode cX6_init 159 = .ok (.aload_n 0, 1) := by decide +kernel
theorem dX6_init_160 : decode cX6_init 160 = .ok (.iconst 4, 1) := by decide +kernel
theorem dX6_init_161 : decode cX6_init 161 = .ok (.newarray .int, 2) := by decide +kernel
theorem dX6_init_163 : decode cX6_init 163 = .ok (.putfield 73, 3) := by decide +kernel
theorem dX6_init_166 : decode cX6_init 166 = .ok (.aload_n 0, 1) := by decide +kernel
theorem dX6_init_167 : decode cX6_init 167 = .ok (.iconst 4, 1) := by decide +kernel
theorem dX6_init_168 : decode cX6_init 168 = .ok (.newarray .int, 2) := by decide +kernel
theorem dX6_init_170 : decode cX6_init 170 = .ok (.putfield 76, 3) := by decide +kernel
theorem dX6_init_173 : decode cX6_init 173 = .ok (.aload_n 0, 1) := by decide +kernel
theorem dX6_init_174 : decode cX6_init 174 = .ok (.sipush 800, 3) := by decide +kernel
theorem dX6_init_177 : decode cX6_init 177 = .ok (.newarray .long, 2) := by decide +kernel
theorem dX6_init_179 : decode cX6_init 179 = .ok (.putfield 79, 3) := by decide +kernel
theorem dX6_init_182 : decode cX6_init 182 = .ok (.aload_n 0, 1) := by decide +kernel
theorem dX6_init_183 : decode cX6_init 183 = .ok (.sipush 800, 3) := by decide +kernel
theorem dX6_init_186 : decode cX6_init 186 = .ok (.newarray .int, 2) := by decide +kernel
theorem dX6_init_188 : decode cX6_init 188 = .ok (.putfield 82, 3) := by decide +kernel
theorem dX6_init_191 : decode cX6_init 191 = .ok (.aload_n 0, 1) := by decide +kernel
theorem dX6_init_192 : decode cX6_init 192 = .ok (.sipush 704, 3) := by decide +kernel
theorem dX6_init_195 : decode cX6_init 195 = .ok (.newarray .long, 2) := by decide +kernel
theorem dX6_init_197 : decode cX6_init 197 = .ok (.putfield 85, 3) := by decide +kernel
theorem dX6_init_200 : decode cX6_init 200 = .ok (.aload_n 0, 1) := by decide +kernel
theorem dX6_init_201 : decode cX6_init 201 = .ok (.sipush 704, 3) := by decide +kernel
theorem dX6_init_204 : decode cX6_init 204 = .ok (.newarray .int, 2) := by decide +kernel
theorem dX6_init_206 : decode cX6_init 206 = .ok (.putfield 88, 3) := by decide +kernel
theorem dX6_init_209 : decode cX6_init 209 = .ok (.aload_n 0, 1) := by decide +kernel
theorem dX6_init_210 : decode cX6_init 210 = .ok (.bipush 20, 2) := by decide +kernel
theorem dX6_init_212 : decode cX6_init 212 = .ok (.newarray .int, 2) := by decide +kernel
theorem dX6_init_214 : decode cX6_init 214 = .ok (.putfield 91, 3) := by decide +kernel
theorem dX6_init_217 : decode cX6_init 217 = .ok (.aload_n 0, 1) := by decide +kernel
theorem dX6_init_218 : decode cX6_init 218 = .ok (.bipush 20, 2) := by decide +kernel
theorem dX6_init_220 : decode cX6_init 220 = .ok (.newarray .int, 2) := by decide +kernel
theorem dX6_init_222 : decode cX6_init 222 = .ok (.putfield 94, 3) := by decide +kernel
theorem dX6_init_225 : decode cX6_init 225 = .ok (.aload_n 0, 1) := by decide +kernel
theorem dX6_init_226 : decode cX6_init 226 = .ok (.bipush 20, 2) := by decide +kernel
theorem dX6_init_228 : decode cX6_init 228 = .ok (.newarray .int, 2) := by decide +kernel
theorem dX6_init_230 : decode cX6_init 230 = .ok (.putfield 97, 3) := by decide +kernel
theorem dX6_init_233 : decode cX6_init 233 = .ok (.aload_n 0, 1) := by decide +kernel
theorem dX6_init_234 : decode cX6_init 234 = .ok (.bipush 20, 2) := by decide +kernel
theorem dX6_init_236 : decode cX6_init 236 = .ok (.newarray .int, 2) := by decide +kernel
theorem dX6_init_238 : decode cX6_init 238 = .ok (.putfield 100, 3) := by decide +kernel
theorem dX6_init_241 : decode cX6_init 241 = .ok (.aload_n 0, 1) := by decide +kernel
theorem dX6_init_242 : decode cX6_init 242 = .ok (.invokevirtual 103, 3) := by decide +kernel
theorem dX6_init_245 : decode cX6_init 245 = .ok (.return_, 1) := by decide +kernel
theorem dX6_in_0 : decode cX6_in 0 = .ok (.iload_n 0, 1) := by decide +kernel
theorem dX6_in_1 : decode cX6_in 1 = .ok (.iload_n 1, 1) := by decide +kernel
theorem dX6_in_2 : decode cX6_in 2 = .ok (.if_icmp .lt 12, 3) := by decide +kernel
theorem dX6_in_5 : decode cX6_in 5 = .ok (.iload_n 0, 1) := by decide +kernel
theorem dX6_in_6 : decode cX6_in 6 = .ok (.iload_n 2, 1) := by decide +kernel
theorem dX6_in_7 : decode cX6_in 7 = .ok (.if_icmp .gt 7, 3) := by decide +kernel
theorem dX6_in_10 : decode cX6_in 10 = .ok (.iconst 1, 1) := by decide +kernel
theorem dX6_in_11 : decode cX6_in 11 = .ok (.goto 4, 3) := by decide +kernel
theorem dX6_in_14 : decode cX6_in 14 = .ok (.iconst 0, 1) := by decide +kernel
theorem dX6_in_15 : decode cX6_in 15 = .ok (.ireturn, 1) := by decide +kernel
theorem dX6_begins_0 : decode cX6_begins 0 = .ok (.aload_n 0, 1) := by decide +kernel
theorem dX6_begins_1 : decode cX6_begins 1 = .ok (.iconst 0, 1) := by decide +kernel
theorem dX6_begins_2 : decode cX6_begins 2 = .ok (.putfield 109, 3) := by decide +kernel
theorem dX6_begins_5 : decode cX6_begins 5 = .ok (.aload_n 0, 1) := by decide +kernel
theorem dX6_begins_6 : decode cX6_begins 6 = .ok (.iconst 0, 1) := by decide +kernel
theorem dX6_begins_7 : decode cX6_begins 7 = .ok (.putfield 112, 3) := by decide +kernel
theorem dX6_begins_10 : decode cX6_begins 10 = .ok (.iconst 0, 1) := by decide +kernel
theorem dX6_begins_11 : decode cX6_begins 11 = .ok (.istore_n 1, 1) := by decide +kernel
theorem dX6_begins_12 : decode cX6_begins 12 = .ok (.iload_n 1, 1) := by decide +kernel
theorem dX6_begins_13 : decode cX6_begins 13 = .ok (.iconst 4, 1) := by decide +kernel
theorem dX6_begins_14 : decode cX6_begins 14 = .ok (.if_icmp .ge 39, 3) := by decide +kernel
theorem dX6_begins_17 : decode cX6_begins 17 = .ok (.aload_n 0, 1) := by decide +kernel
theorem dX6_begins_18 : decode cX6_begins 18 = .ok (.getfield 13, 3) := by decide +kernel
theorem dX6_begins_21 : decode cX6_begins 21 = .ok (.iload_n 1, 1) := by decide +kernel
theorem dX6_begins_22 : decode cX6_begins 22 = .ok (.iconst 0, 1) := by decide +kernel
theorem dX6_begins_23 : decode cX6_begins 23 = .ok (.iastore, 1) := by decide +kernel
theorem dX6_begins_24 : decode cX6_begins 24 = .ok (.aload_n 0, 1) := by decide +kernel
theorem dX6_begins_25 : decode cX6_begins 25 = .ok (.getfield 30, 3) := by decide +kernel
theorem dX6_begins_28 : decode cX6_begins 28 = .ok (.iload_n 1, 1) := by decide +kernel
theorem dX6_begins_29 : decode cX6_begins 29 = .ok (.bipush (-9), 2) := by decide +kernel
theorem dX6_begins_31 : decode cX6_begins 31 = .ok (.iastore, 1) := by decide +kernel
theorem dX6_begins_32 : decode cX6_begins 32 = .ok (.aload_n 0, 1) := by decide +kernel
theorem dX6_begins_33 : decode cX6_begins 33 = .ok (.getfield 73, 3) := by decide +kernel
theorem dX6_begins_36 : decode cX6_begins 36 = .ok (.iload_n 1, 1) := by decide +kernel
theorem dX6_begins_37 : decode cX6_begins 37 = .ok (.bipush 20, 2) := by decide +kernel
theorem dX6_begins_39 : decode cX6_begins 39 = .ok (.iastore, 1) := by decide +kernel
theorem dX6_begins_40 : decode cX6_begins 40 = .ok (.aload_n 0, 1) := by decide +kernel
theorem dX6_begins_41 : decode cX6_begins 41 = .ok (.getfield 76, 3) := by decide +kernel
theorem dX6_begins_44 : decode cX6_begins 44 = .ok (.iload_n 1, 1) := by decide +kernel
theorem dX6_begins_45 : decode cX6_begins 45 = .ok (.iconst 0, 1) := by decide +kernel
theorem dX6_begins_46 : decode cX6_begins 46 = .ok (.iastore, 1) := by decide +kernel
theorem dX6_begins_47 : decode cX6_begins 47 = .ok (.iinc 1 1, 3) := by decide +kernel
theorem dX6_begins_50 : decode cX6_begins 50 = .ok (.goto (-38), 3) := by decide +kernel
theorem dX6_begins_53 : decode cX6_begins 53 = .ok (.iconst 0, 1) := by decide +kernel
theorem dX6_begins_54 : decode cX6_begins 54 = .ok (.istore_n 1, 1) := by decide +kernel
theorem dX6_begins_55 : decode cX6_begins 55 = .ok (.iload_n 1, 1) := by decide +kernel
theorem dX6_begins_56 : decode cX6_begins 56 = .ok (.bipush 16, 2) := by decide +kernel
theorem dX6_begins_58 : decode cX6_begins 58 = .ok (.if_icmp .ge 16, 3) := by decide +kernel
theorem dX6_begins_61 : decode cX6_begins 61 = .ok (.aload_n 0, 1) := by decide +kernel
theorem dX6_begins_62 : decode cX6_begins 62 = .ok (.getfield 24, 3) := by decide +kernel
theorem dX6_begins_65 : decode cX6_begins 65 = .ok (.iload_n 1, 1) := by decide +kernel
theorem dX6_begins_66 : decode cX6_begins 66 = .ok (.iconst 0, 1) := by decide +kernel
theorem dX6_begins_67 : decode cX6_begins 67 = .ok (.iastore, 1) := by decide +kernel
theorem dX6_begins_68 : decode cX6_begins 68 = .ok (.iinc 1 1, 3) := by decide +kernel
theorem dX6_begins_71 : decode cX6_begins 71 = .ok (.goto (-16), 3) := by decide +kernel
theorem dX6_begins_74 : decode cX6_begins 74 = .ok (.return_, 1) := by decide +kernel
theorem dX6_isMachine_0 : decode cX6_isMachine 0 = .ok (.iload_n 1, 1) := by decide +kernel
theorem dX6_isMachine_1 : decode cX6_isMachine 1 = .ok (.iconst 0, 1) := by decide +kernel
theorem dX6_isMachine_2 : decode cX6_isMachine 2 = .ok (.aload_n 0, 1) := by decide +kernel
theorem dX6_isMachine_3 : decode cX6_isMachine 3 = .ok (.getfield 7, 3) := by decide +kernel
theorem dX6_isMachine_6 : decode cX6_isMachine 6 = .ok (.iconst 1, 1) := by decide +kernel
theorem dX6_isMachine_7 : decode cX6_isMachine 7 = .ok (.isub, 1) := by decide +kernel
theorem dX6_isMachine_8 : decode cX6_isMachine 8 = .ok (.invokestatic 115, 3) := by decide +kernel
theorem dX6_isMachine_11 : decode cX6_isMachine 11 = .ok (.ireturn, 1) := by decide +kernel
theorem dX6_isThing_0 : decode cX6_isThing 0 = .ok (.iload_n 0, 1) := by decide +kernel
theorem dX6_isThing_1 : decode cX6_isThing 1 = .ok (.iconst 0, 1) := by decide +kernel
theorem dX6_isThing_2 : decode cX6_isThing 2 = .ok (.bipush 11, 2) := by decide +kernel
theorem dX6_isThing_4 : decode cX6_isThing 4 = .ok (.invokestatic 115, 3) := by decide +kernel
theorem dX6_isThing_7 : decode cX6_isThing 7 = .ok (.ireturn, 1) := by decide +kernel
theorem dX6_isDay_0 : decode cX6_isDay 0 = .ok (.iload_n 1, 1) := by decide +kernel
theorem dX6_isDay_1 : decode cX6_isDay 1 = .ok (.iconst 0, 1) := by decide +kernel
theorem dX6_isDay_2 : decode cX6_isDay 2 = .ok (.aload_n 0, 1) := by decide +kernel
theorem dX6_isDay_3 : decode cX6_isDay 3 = .ok (.getfield 109, 3) := by decide +kernel
theorem dX6_isDay_6 : decode cX6_isDay 6 = .ok (.invokestatic 115, 3) := by decide +kernel
theorem dX6_isDay_9 : decode cX6_isDay 9 = .ok (.ireturn, 1) := by decide +kernel
theorem dX6_changeAt_0 : decode cX6_changeAt 0 = .ok (.bipush 12, 2) := by decide +kernel
theorem dX6_changeAt_2 : decode cX6_changeAt 2 = .ok (.bipush 20, 2) := by decide +kernel
theorem dX6_changeAt_4 : decode cX6_changeAt 4 = .ok (.iload_n 0, 1) := by decide +kernel
theorem dX6_changeAt_5 : decode cX6_changeAt 5 = .ok (.imul, 1) := by decide +kernel
theorem dX6_changeAt_6 : decode cX6_changeAt 6 = .ok (.iload_n 1, 1) := by decide +kernel
theorem dX6_changeAt_7 : decode cX6_changeAt 7 = .ok (.iadd, 1) := by decide +kernel
theorem dX6_changeAt_8 : decode cX6_changeAt 8 = .ok (.imul, 1) := by decide +kernel
theorem dX6_changeAt_9 : decode cX6_changeAt 9 = .ok (.ireturn, 1) := by decide +kernel
theorem dX6_first_0 : decode cX6_first 0 = .ok (.bipush (-9), 2) := by decide +kernel
theorem dX6_first_2 : decode cX6_first 2 = .ok (.istore_n 2, 1) := by decide +kernel
theorem dX6_first_3 : decode cX6_first 3 = .ok (.iconst 0, 1) := by decide +kernel
theorem dX6_first_4 : decode cX6_first 4 = .ok (.istore_n 3, 1) := by decide +kernel
theorem dX6_first_5 : decode cX6_first 5 = .ok (.iload_n 3, 1) := by decide +kernel
theorem dX6_first_6 : decode cX6_first 6 = .ok (.aload_n 0, 1) := by decide +kernel
theorem dX6_first_7 : decode cX6_first 7 = .ok (.getfield 7, 3) := by decide +kernel
theorem dX6_first_10 : decode cX6_first 10 = .ok (.if_icmp .ge 66, 3) := by decide +kernel
theorem dX6_first_13 : decode cX6_first 13 = .ok (.aload_n 0, 1) := by decide +kernel
theorem dX6_first_14 : decode cX6_first 14 = .ok (.getfield 36, 3) := by decide +kernel
theorem dX6_first_17 : decode cX6_first 17 = .ok (.iload_n 3, 1) := by decide +kernel
theorem dX6_first_18 : decode cX6_first 18 = .ok (.iaload, 1) := by decide +kernel
theorem dX6_first_19 : decode cX6_first 19 = .ok (.aload_n 1, 1) := by decide +kernel
theorem dX6_first_20 : decode cX6_first 20 = .ok (.iload_n 3, 1) := by decide +kernel
theorem dX6_first_21 : decode cX6_first 21 = .ok (.iaload, 1) := by decide +kernel
theorem dX6_first_22 : decode cX6_first 22 = .ok (.if_icmp .ge 48, 3) := by decide +kernel
theorem dX6_first_25 : decode cX6_first 25 = .ok (.iload_n 2, 1) := by decide +kernel
theorem dX6_first_26 : decode cX6_first 26 = .ok (.bipush (-9), 2) := by decide +kernel
theorem dX6_first_28 : decode cX6_first 28 = .ok (.if_icmp .eq 40, 3) := by decide +kernel
theorem dX6_first_31 : decode cX6_first 31 = .ok (.aload_n 0, 1) := by decide +kernel
theorem dX6_first_32 : decode cX6_first 32 = .ok (.getfield 17, 3) := by decide +kernel
theorem dX6_first_35 : decode cX6_first 35 = .ok (.iload_n 3, 1) := by decide +kernel
theorem dX6_first_36 : decode cX6_first 36 = .ok (.aload_n 0, 1) := by decide +kernel
theorem dX6_first_37 : decode cX6_first 37 = .ok (.getfield 36, 3) := by decide +kernel
theorem dX6_first_40 : decode cX6_first 40 = .ok (.iload_n 3, 1) := by decide +kernel
theorem dX6_first_41 : decode cX6_first 41 = .ok (.iaload, 1) := by decide +kernel
theorem dX6_first_42 : decode cX6_first 42 = .ok (.invokestatic 119, 3) := by decide +kernel
theorem dX6_first_45 : decode cX6_first 45 = .ok (.iconst 4, 1) := by decide +kernel
theorem dX6_first_46 : decode cX6_first 46 = .ok (.iadd, 1) := by decide +kernel
theorem dX6_first_47 : decode cX6_first 47 = .ok (.iaload, 1) := by decide +kernel
theorem dX6_first_48 : decode cX6_first 48 = .ok (.aload_n 0, 1) := by decide +kernel
theorem dX6_first_49 : decode cX6_first 49 = .ok (.getfield 17, 3) := by decide +kernel
theorem dX6_first_52 : decode cX6_first 52 = .ok (.iload_n 2, 1) := by decide +kernel
theorem dX6_first_53 : decode cX6_first 53 = .ok (.aload_n 0, 1) := by decide +kernel
theorem dX6_first_54 : decode cX6_first 54 = .ok (.getfield 36, 3) := by decide +kernel
theorem dX6_first_57 : decode cX6_first 57 = .ok (.iload_n 2, 1) := by decide +kernel
theorem dX6_first_58 : decode cX6_first 58 = .ok (.iaload, 1) := by decide +kernel
theorem dX6_first_59 : decode cX6_first 59 = .ok (.invokestatic 119, 3) := by decide +kernel
theorem dX6_first_62 : decode cX6_first 62 = .ok (.iconst 4, 1) := by decide +kernel
theorem dX6_first_63 : decode cX6_first 63 = .ok (.iadd, 1) := by decide +kernel
theorem dX6_first_64 : decode cX6_first 64 = .ok (.iaload, 1) := by decide +kernel
theorem dX6_first_65 : decode cX6_first 65 = .ok (.if_icmp .ge 5, 3) := by decide +kernel
theorem dX6_first_68 : decode cX6_first 68 = .ok (.iload_n 3, 1) := by decide +kernel
theorem dX6_first_69 : decode cX6_first 69 = .ok (.istore_n 2, 1) := by decide +kernel
theorem dX6_first_70 : decode cX6_first 70 = .ok (.iinc 3 1, 3) := by decide +kernel
theorem dX6_first_73 : decode cX6_first 73 = .ok (.goto (-68), 3) := by decide +kernel
theorem dX6_first_76 : decode cX6_first 76 = .ok (.iload_n 2, 1) := by decide +kernel
theorem dX6_first_77 : decode cX6_first 77 = .ok (.ireturn, 1) := by decide +kernel
theorem dX6_restarts_0 : decode cX6_restarts 0 = .ok (.iconst 0, 1) := by decide +kernel
theorem dX6_restarts_1 : decode cX6_restarts 1 = .ok (.istore_n 1, 1) := by decide +kernel
theorem dX6_restarts_2 : decode cX6_restarts 2 = .ok (.iload_n 1, 1) := by decide +kernel
theorem dX6_restarts_3 : decode cX6_restarts 3 = .ok (.iconst 4, 1) := by decide +kernel
theorem dX6_restarts_4 : decode cX6_restarts 4 = .ok (.if_icmp .ge 16, 3) := by decide +kernel
theorem dX6_restarts_7 : decode cX6_restarts 7 = .ok (.aload_n 0, 1) := by decide +kernel
theorem dX6_restarts_8 : decode cX6_restarts 8 = .ok (.getfield 36, 3) := by decide +kernel
theorem dX6_restarts_11 : decode cX6_restarts 11 = .ok (.iload_n 1, 1) := by decide +kernel
theorem dX6_restarts_12 : decode cX6_restarts 12 = .ok (.iconst 0, 1) := by decide +kernel
theorem dX6_restarts_13 : decode cX6_restarts 13 = .ok (.iastore, 1) := by decide +kernel
theorem dX6_restarts_14 : decode cX6_restarts 14 = .ok (.iinc 1 1, 3) := by decide +kernel
theorem dX6_restarts_17 : decode cX6_restarts 17 = .ok (.goto (-15), 3) := by decide +kernel
theorem dX6_restarts_20 : decode cX6_restarts 20 = .ok (.return_, 1) := by decide +kernel
theorem dX6_leaves_0 : decode cX6_leaves 0 = .ok (.aload_n 0, 1) := by decide +kernel
theorem dX6_leaves_1 : decode cX6_leaves 1 = .ok (.invokevirtual 123, 3) := by decide +kernel
theorem dX6_leaves_4 : decode cX6_leaves 4 = .ok (.iconst 0, 1) := by decide +kernel
theorem dX6_leaves_5 : decode cX6_leaves 5 = .ok (.istore_n 1, 1) := by decide +kernel
theorem dX6_leaves_6 : decode cX6_leaves 6 = .ok (.iload_n 1, 1) := by decide +kernel
theorem dX6_leaves_7 : decode cX6_leaves 7 = .ok (.iconst 4, 1) := by decide +kernel
theorem dX6_leaves_8 : decode cX6_leaves 8 = .ok (.if_icmp .ge 17, 3) := by decide +kernel
theorem dX6_leaves_11 : decode cX6_leaves 11 = .ok (.aload_n 0, 1) := by decide +kernel
theorem dX6_leaves_12 : decode cX6_leaves 12 = .ok (.getfield 33, 3) := by decide +kernel
theorem dX6_leaves_15 : decode cX6_leaves 15 = .ok (.iload_n 1, 1) := by decide +kernel
theorem dX6_leaves_16 : decode cX6_leaves 16 = .ok (.bipush 20, 2) := by decide +kernel
theorem dX6_leaves_18 : decode cX6_leaves 18 = .ok (.iastore, 1) := by decide +kernel
theorem dX6_leaves_19 : decode cX6_leaves 19 = .ok (.iinc 1 1, 3) := by decide +kernel
theorem dX6_leaves_22 : decode cX6_leaves 22 = .ok (.goto (-16), 3) := by decide +kernel
theorem dX6_leaves_25 : decode cX6_leaves 25 = .ok (.aload_n 0, 1) := by decide +kernel
theorem dX6_leaves_26 : decode cX6_leaves 26 = .ok (.aload_n 0, 1) := by decide +kernel
theorem dX6_leaves_27 : decode cX6_leaves 27 = .ok (.getfield 13, 3) := by decide +kernel
theorem dX6_leaves_30 : decode cX6_leaves 30 = .ok (.invokevirtual 126, 3) := by decide +kernel
theorem dX6_leaves_33 : decode cX6_leaves 33 = .ok (.istore_n 1, 1) := by decide +kernel
theorem dX6_leaves_34 : decode cX6_leaves 34 = .ok (.iload_n 1, 1) := by decide +kernel
theorem dX6_leaves_35 : decode cX6_leaves 35 = .ok (.bipush (-9), 2) := by decide +kernel
theorem dX6_leaves_37 : decode cX6_leaves 37 = .ok (.if_icmp .eq 156, 3) := by decide +kernel
theorem dX6_leaves_40 : decode cX6_leaves 40 = .ok (.iload_n 1, 1) := by decide +kernel
theorem dX6_leaves_41 : decode cX6_leaves 41 = .ok (.aload_n 0, 1) := by decide +kernel
theorem dX6_leaves_42 : decode cX6_leaves 42 = .ok (.getfield 36, 3) := by decide +kernel
theorem dX6_leaves_45 : decode cX6_leaves 45 = .ok (.iload_n 1, 1) := by decide +kernel
theorem dX6_leaves_46 : decode cX6_leaves 46 = .ok (.iaload, 1) := by decide +kernel
theorem dX6_leaves_47 : decode cX6_leaves 47 = .ok (.invokestatic 119, 3) := by decide +kernel
theorem dX6_leaves_50 : decode cX6_leaves 50 = .ok (.istore_n 2, 1) := by decide +kernel
theorem dX6_leaves_51 : decode cX6_leaves 51 = .ok (.aload_n 0, 1) := by decide +kernel
theorem dX6_leaves_52 : decode cX6_leaves 52 = .ok (.getfield 30, 3) := by decide +kernel
theorem dX6_leaves_55 : decode cX6_leaves 55 = .ok (.iload_n 1, 1) := by decide +kernel
theorem dX6_leaves_56 : decode cX6_leaves 56 = .ok (.iaload, 1) := by decide +kernel
theorem dX6_leaves_57 : decode cX6_leaves 57 = .ok (.bipush (-9), 2) := by decide +kernel
theorem dX6_leaves_59 : decode cX6_leaves 59 = .ok (.if_icmp .eq 22, 3) := by decide +kernel
theorem dX6_leaves_62 : decode cX6_leaves 62 = .ok (.aload_n 0, 1) := by decide +kernel
theorem dX6_leaves_63 : decode cX6_leaves 63 = .ok (.getfield 36, 3) := by decide +kernel
theorem dX6_leaves_66 : decode cX6_leaves 66 = .ok (.iload_n 1, 1) := by decide +kernel
theorem dX6_leaves_67 : decode cX6_leaves 67 = .ok (.iaload, 1) := by decide +kernel
theorem dX6_leaves_68 : decode cX6_leaves 68 = .ok (.aload_n 0, 1) := by decide +kernel
theorem dX6_leaves_69 : decode cX6_leaves 69 = .ok (.getfield 30, 3) := by decide +kernel
theorem dX6_leaves_72 : decode cX6_leaves 72 = .ok (.iload_n 1, 1) := by decide +kernel
theorem dX6_leaves_73 : decode cX6_leaves 73 = .ok (.iaload, 1) := by decide +kernel
theorem dX6_leaves_74 : decode cX6_leaves 74 = .ok (.if_icmp .lt 7, 3) := by decide +kernel
theorem dX6_leaves_77 : decode cX6_leaves 77 = .ok (.iconst 1, 1) := by decide +kernel
theorem dX6_leaves_78 : decode cX6_leaves 78 = .ok (.goto 4, 3) := by decide +kernel
theorem dX6_leaves_81 : decode cX6_leaves 81 = .ok (.iconst 0, 1) := by decide +kernel
theorem dX6_leaves_82 : decode cX6_leaves 82 = .ok (.istore_n 3, 1) := by decide +kernel
theorem dX6_leaves_83 : decode cX6_leaves 83 = .ok (.iconst 0, 1) := by decide +kernel
theorem dX6_leaves_84 : decode cX6_leaves 84 = .ok (.istore 4, 2) := by decide +kernel
theorem dX6_leaves_86 : decode cX6_leaves 86 = .ok (.iload 4, 2) := by decide +kernel
theorem dX6_leaves_88 : decode cX6_leaves 88 = .ok (.aload_n 0, 1) := by decide +kernel
theorem dX6_leaves_89 : decode cX6_leaves 89 = .ok (.getfield 7, 3) := by decide +kernel
theorem dX6_leaves_92 : decode cX6_leaves 92 = .ok (.if_icmp .ge 39, 3) := by decide +kernel
theorem dX6_leaves_95 : decode cX6_leaves 95 = .ok (.iload_n 3, 1) := by decide +kernel
theorem dX6_leaves_96 : decode cX6_leaves 96 = .ok (.aload_n 0, 1) := by decide +kernel
theorem dX6_leaves_97 : decode cX6_leaves 97 = .ok (.getfield 33, 3) := by decide +kernel
theorem dX6_leaves_100 : decode cX6_leaves 100 = .ok (.iload 4, 2) := by decide +kernel
theorem dX6_leaves_102 : decode cX6_leaves 102 = .ok (.iaload, 1) := by decide +kernel
theorem dX6_leaves_103 : decode cX6_leaves 103 = .ok (.aload_n 0, 1) := by decide +kernel
theorem dX6_leaves_104 : decode cX6_leaves 104 = .ok (.getfield 17, 3) := by decide +kernel
theorem dX6_leaves_107 : decode cX6_leaves 107 = .ok (.iload_n 2, 1) := by decide +kernel
theorem dX6_leaves_108 : decode cX6_leaves 108 = .ok (.bipush 6, 2) := by decide +kernel
theorem dX6_leaves_110 : decode cX6_leaves 110 = .ok (.iadd, 1) := by decide +kernel
theorem dX6_leaves_111 : decode cX6_leaves 111 = .ok (.iload 4, 2) := by decide +kernel
theorem dX6_leaves_113 : decode cX6_leaves 113 = .ok (.iadd, 1) := by decide +kernel
theorem dX6_leaves_114 : decode cX6_leaves 114 = .ok (.iaload, 1) := by decide +kernel
theorem dX6_leaves_115 : decode cX6_leaves 115 = .ok (.if_icmp .ge 7, 3) := by decide +kernel
theorem dX6_leaves_118 : decode cX6_leaves 118 = .ok (.iconst 1, 1) := by decide +kernel
theorem dX6_leaves_119 : decode cX6_leaves 119 = .ok (.goto 4, 3) := by decide +kernel
theorem dX6_leaves_122 : decode cX6_leaves 122 = .ok (.iconst 0, 1) := by decide +kernel
theorem dX6_leaves_123 : decode cX6_leaves 123 = .ok (.ior, 1) := by decide +kernel
theorem dX6_leaves_124 : decode cX6_leaves 124 = .ok (.istore_n 3, 1) := by decide +kernel
theorem dX6_leaves_125 : decode cX6_leaves 125 = .ok (.iinc 4 1, 3) := by decide +kernel
theorem dX6_leaves_128 : decode cX6_leaves 128 = .ok (.goto (-42), 3) := by decide +kernel
theorem dX6_leaves_131 : decode cX6_leaves 131 = .ok (.aload_n 0, 1) := by decide +kernel
theorem dX6_leaves_132 : decode cX6_leaves 132 = .ok (.getfield 33, 3) := by decide +kernel
theorem dX6_leaves_135 : decode cX6_leaves 135 = .ok (.iload_n 1, 1) := by decide +kernel
theorem dX6_leaves_136 : decode cX6_leaves 136 = .ok (.iload_n 3, 1) := by decide +kernel
theorem dX6_leaves_137 : decode cX6_leaves 137 = .ok (.ifCond .eq 27, 3) := by decide +kernel
theorem dX6_leaves_140 : decode cX6_leaves 140 = .ok (.aload_n 0, 1) := by decide +kernel
theorem dX6_leaves_141 : decode cX6_leaves 141 = .ok (.getfield 36, 3) := by decide +kernel
theorem dX6_leaves_144 : decode cX6_leaves 144 = .ok (.iload_n 1, 1) := by decide +kernel
theorem dX6_leaves_145 : decode cX6_leaves 145 = .ok (.iaload, 1) := by decide +kernel
theorem dX6_leaves_146 : decode cX6_leaves 146 = .ok (.aload_n 0, 1) := by decide +kernel
theorem dX6_leaves_147 : decode cX6_leaves 147 = .ok (.getfield 33, 3) := by decide +kernel
theorem dX6_leaves_150 : decode cX6_leaves 150 = .ok (.iload_n 1, 1) := by decide +kernel
theorem dX6_leaves_151 : decode cX6_leaves 151 = .ok (.iaload, 1) := by decide +kernel
theorem dX6_leaves_152 : decode cX6_leaves 152 = .ok (.if_icmp .ge 12, 3) := by decide +kernel
theorem dX6_leaves_155 : decode cX6_leaves 155 = .ok (.aload_n 0, 1) := by decide +kernel
theorem dX6_leaves_156 : decode cX6_leaves 156 = .ok (.getfield 36, 3) := by decide +kernel
theorem dX6_leaves_159 : decode cX6_leaves 159 = .ok (.iload_n 1, 1) := by decide +kernel
theorem dX6_leaves_160 : decode cX6_leaves 160 = .ok (.iaload, 1) := by decide +kernel
theorem dX6_leaves_161 : decode cX6_leaves 161 = .ok (.goto 9, 3) := by decide +kernel
theorem dX6_leaves_164 : decode cX6_leaves 164 = .ok (.aload_n 0, 1) := by decide +kernel
theorem dX6_leaves_165 : decode cX6_leaves 165 = .ok (.getfield 33, 3) := by decide +kernel
theorem dX6_leaves_168 : decode cX6_leaves 168 = .ok (.iload_n 1, 1) := by decide +kernel
theorem dX6_leaves_169 : decode cX6_leaves 169 = .ok (.iaload, 1) := by decide +kernel
theorem dX6_leaves_170 : decode cX6_leaves 170 = .ok (.iastore, 1) := by decide +kernel
theorem dX6_leaves_171 : decode cX6_leaves 171 = .ok (.aload_n 0, 1) := by decide +kernel
theorem dX6_leaves_172 : decode cX6_leaves 172 = .ok (.getfield 36, 3) := by decide +kernel
theorem dX6_leaves_175 : decode cX6_leaves 175 = .ok (.iload_n 1, 1) := by decide +kernel
theorem dX6_leaves_176 : decode cX6_leaves 176 = .ok (.dup2, 1) := by decide +kernel
theorem dX6_leaves_177 : decode cX6_leaves 177 = .ok (.iaload, 1) := by decide +kernel
theorem dX6_leaves_178 : decode cX6_leaves 178 = .ok (.iconst 1, 1) := by decide +kernel
theorem dX6_leaves_179 : decode cX6_leaves 179 = .ok (.iadd, 1) := by decide +kernel
theorem dX6_leaves_180 : decode cX6_leaves 180 = .ok (.iastore, 1) := by decide +kernel
theorem dX6_leaves_181 : decode cX6_leaves 181 = .ok (.aload_n 0, 1) := by decide +kernel
theorem dX6_leaves_182 : decode cX6_leaves 182 = .ok (.aload_n 0, 1) := by decide +kernel
theorem dX6_leaves_183 : decode cX6_leaves 183 = .ok (.getfield 13, 3) := by decide +kernel
theorem dX6_leaves_186 : decode cX6_leaves 186 = .ok (.invokevirtual 126, 3) := by decide +kernel
theorem dX6_leaves_189 : decode cX6_leaves 189 = .ok (.istore_n 1, 1) := by decide +kernel
theorem dX6_leaves_190 : decode cX6_leaves 190 = .ok (.goto (-156), 3) := by decide +kernel
theorem dX6_leaves_193 : decode cX6_leaves 193 = .ok (.return_, 1) := by decide +kernel
theorem dX6_isFolder_0 : decode cX6_isFolder 0 = .ok (.aload_n 0, 1) := by decide +kernel
theorem dX6_isFolder_1 : decode cX6_isFolder 1 = .ok (.getfield 46, 3) := by decide +kernel
theorem dX6_isFolder_4 : decode cX6_isFolder 4 = .ok (.iload_n 1, 1) := by decide +kernel
theorem dX6_isFolder_5 : decode cX6_isFolder 5 = .ok (.baload, 1) := by decide +kernel
theorem dX6_isFolder_6 : decode cX6_isFolder 6 = .ok (.ifCond .eq 17, 3) := by decide +kernel
theorem dX6_isFolder_9 : decode cX6_isFolder 9 = .ok (.aload_n 0, 1) := by decide +kernel
theorem dX6_isFolder_10 : decode cX6_isFolder 10 = .ok (.getfield 49, 3) := by decide +kernel
theorem dX6_isFolder_13 : decode cX6_isFolder 13 = .ok (.iload_n 1, 1) := by decide +kernel
theorem dX6_isFolder_14 : decode cX6_isFolder 14 = .ok (.iaload, 1) := by decide +kernel
theorem dX6_isFolder_15 : decode cX6_isFolder 15 = .ok (.iconst 2, 1) := by decide +kernel
theorem dX6_isFolder_16 : decode cX6_isFolder 16 = .ok (.if_icmp .ne 7, 3) := by decide +kernel
theorem dX6_isFolder_19 : decode cX6_isFolder 19 = .ok (.iconst 1, 1) := by decide +kernel
theorem dX6_isFolder_20 : decode cX6_isFolder 20 = .ok (.goto 4, 3) := by decide +kernel
theorem dX6_isFolder_23 : decode cX6_isFolder 23 = .ok (.iconst 0, 1) := by decide +kernel
theorem dX6_isFolder_24 : decode cX6_isFolder 24 = .ok (.ireturn, 1) := by decide +kernel
theorem dX6_liesIn_0 : decode cX6_liesIn 0 = .ok (.iload_n 1, 1) := by decide +kernel
theorem dX6_liesIn_1 : decode cX6_liesIn 1 = .ok (.istore_n 3, 1) := by decide +kernel
theorem dX6_liesIn_2 : decode cX6_liesIn 2 = .ok (.iload_n 3, 1) := by decide +kernel
theorem dX6_liesIn_3 : decode cX6_liesIn 3 = .ok (.iload_n 2, 1) := by decide +kernel
theorem dX6_liesIn_4 : decode cX6_liesIn 4 = .ok (.if_icmp .eq 17, 3) := by decide +kernel
theorem dX6_liesIn_7 : decode cX6_liesIn 7 = .ok (.iload_n 3, 1) := by decide +kernel
theorem dX6_liesIn_8 : decode cX6_liesIn 8 = .ok (.ifCond .eq 13, 3) := by decide +kernel
theorem dX6_liesIn_11 : decode cX6_liesIn 11 = .ok (.aload_n 0, 1) := by decide +kernel
theorem dX6_liesIn_12 : decode cX6_liesIn 12 = .ok (.getfield 52, 3) := by decide +kernel
theorem dX6_liesIn_15 : decode cX6_liesIn 15 = .ok (.iload_n 3, 1) := by decide +kernel
theorem dX6_liesIn_16 : decode cX6_liesIn 16 = .ok (.iaload, 1) := by decide +kernel
theorem dX6_liesIn_17 : decode cX6_liesIn 17 = .ok (.istore_n 3, 1) := by decide +kernel
theorem dX6_liesIn_18 : decode cX6_liesIn 18 = .ok (.goto (-16), 3) := by decide +kernel
theorem dX6_liesIn_21 : decode cX6_liesIn 21 = .ok (.iload_n 3, 1) := by decide +kernel
theorem dX6_liesIn_22 : decode cX6_liesIn 22 = .ok (.iload_n 2, 1) := by decide +kernel
theorem dX6_liesIn_23 : decode cX6_liesIn 23 = .ok (.if_icmp .ne 7, 3) := by decide +kernel
theorem dX6_liesIn_26 : decode cX6_liesIn 26 = .ok (.iconst 1, 1) := by decide +kernel
theorem dX6_liesIn_27 : decode cX6_liesIn 27 = .ok (.goto 4, 3) := by decide +kernel
theorem dX6_liesIn_30 : decode cX6_liesIn 30 = .ok (.iconst 0, 1) := by decide +kernel
theorem dX6_liesIn_31 : decode cX6_liesIn 31 = .ok (.ireturn, 1) := by decide +kernel
theorem dX6_puts_0 : decode cX6_puts 0 = .ok (.aload_n 0, 1) := by decide +kernel
theorem dX6_puts_1 : decode cX6_puts 1 = .ok (.getfield 52, 3) := by decide +kernel
theorem dX6_puts_4 : decode cX6_puts 4 = .ok (.iload_n 1, 1) := by decide +kernel
theorem dX6_puts_5 : decode cX6_puts 5 = .ok (.iload_n 2, 1) := by decide +kernel
theorem dX6_puts_6 : decode cX6_puts 6 = .ok (.iastore, 1) := by decide +kernel
theorem dX6_puts_7 : decode cX6_puts 7 = .ok (.aload_n 0, 1) := by decide +kernel
theorem dX6_puts_8 : decode cX6_puts 8 = .ok (.getfield 55, 3) := by decide +kernel
theorem dX6_puts_11 : decode cX6_puts 11 = .ok (.iload_n 1, 1) := by decide +kernel
theorem dX6_puts_12 : decode cX6_puts 12 = .ok (.iload_n 3, 1) := by decide +kernel
theorem dX6_puts_13 : decode cX6_puts 13 = .ok (.iastore, 1) := by decide +kernel
theorem dX6_puts_14 : decode cX6_puts 14 = .ok (.aload_n 0, 1) := by decide +kernel
theorem dX6_puts_15 : decode cX6_puts 15 = .ok (.getfield 58, 3) := by decide +kernel
theorem dX6_puts_18 : decode cX6_puts 18 = .ok (.iload_n 1, 1) := by decide +kernel
theorem dX6_puts_19 : decode cX6_puts 19 = .ok (.iload 4, 2) := by decide +kernel
theorem dX6_puts_21 : decode cX6_puts 21 = .ok (.iastore, 1) := by decide +kernel
theorem dX6_puts_22 : decode cX6_puts 22 = .ok (.return_, 1) := by decide +kernel
theorem dX6_goes_0 : decode cX6_goes 0 = .ok (.iconst 1, 1) := by decide +kernel
theorem dX6_goes_1 : decode cX6_goes 1 = .ok (.istore_n 2, 1) := by decide +kernel
theorem dX6_goes_2 : decode cX6_goes 2 = .ok (.iload_n 2, 1) := by decide +kernel
theorem dX6_goes_3 : decode cX6_goes 3 = .ok (.bipush 12, 2) := by decide +kernel
theorem dX6_goes_5 : decode cX6_goes 5 = .ok (.if_icmp .ge 38, 3) := by decide +kernel
theorem dX6_goes_8 : decode cX6_goes 8 = .ok (.aload_n 0, 1) := by decide +kernel
theorem dX6_goes_9 : decode cX6_goes 9 = .ok (.getfield 70, 3) := by decide +kernel
theorem dX6_goes_12 : decode cX6_goes 12 = .ok (.iload_n 2, 1) := by decide +kernel
theorem dX6_goes_13 : decode cX6_goes 13 = .ok (.aload_n 0, 1) := by decide +kernel
theorem dX6_goes_14 : decode cX6_goes 14 = .ok (.getfield 46, 3) := by decide +kernel
theorem dX6_goes_17 : decode cX6_goes 17 = .ok (.iload_n 2, 1) := by decide +kernel
theorem dX6_goes_18 : decode cX6_goes 18 = .ok (.baload, 1) := by decide +kernel
theorem dX6_goes_19 : decode cX6_goes 19 = .ok (.ifCond .eq 16, 3) := by decide +kernel
theorem dX6_goes_22 : decode cX6_goes 22 = .ok (.aload_n 0, 1) := by decide +kernel
theorem dX6_goes_23 : decode cX6_goes 23 = .ok (.iload_n 2, 1) := by decide +kernel
theorem dX6_goes_24 : decode cX6_goes 24 = .ok (.iload_n 1, 1) := by decide +kernel
theorem dX6_goes_25 : decode cX6_goes 25 = .ok (.invokevirtual 130, 3) := by decide +kernel
theorem dX6_goes_28 : decode cX6_goes 28 = .ok (.ifCond .eq 7, 3) := by decide +kernel
theorem dX6_goes_31 : decode cX6_goes 31 = .ok (.iconst 1, 1) := by decide +kernel
theorem dX6_goes_32 : decode cX6_goes 32 = .ok (.goto 4, 3) := by decide +kernel
theorem dX6_goes_35 : decode cX6_goes 35 = .ok (.iconst 0, 1) := by decide +kernel
theorem dX6_goes_36 : decode cX6_goes 36 = .ok (.bastore, 1) := by decide +kernel
theorem dX6_goes_37 : decode cX6_goes 37 = .ok (.iinc 2 1, 3) := by decide +kernel
theorem dX6_goes_40 : decode cX6_goes 40 = .ok (.goto (-38), 3) := by decide +kernel
theorem dX6_goes_43 : decode cX6_goes 43 = .ok (.iconst 1, 1) := by decide +kernel
theorem dX6_goes_44 : decode cX6_goes 44 = .ok (.istore_n 2, 1) := by decide +kernel
theorem dX6_goes_45 : decode cX6_goes 45 = .ok (.iload_n 2, 1) := by decide +kernel
theorem dX6_goes_46 : decode cX6_goes 46 = .ok (.bipush 12, 2) := by decide +kernel
theorem dX6_goes_48 : decode cX6_goes 48 = .ok (.if_icmp .ge 32, 3) := by decide +kernel
theorem dX6_goes_51 : decode cX6_goes 51 = .ok (.aload_n 0, 1) := by decide +kernel
theorem dX6_goes_52 : decode cX6_goes 52 = .ok (.getfield 46, 3) := by decide +kernel
theorem dX6_goes_55 : decode cX6_goes 55 = .ok (.iload_n 2, 1) := by decide +kernel
theorem dX6_goes_56 : decode cX6_goes 56 = .ok (.dup2, 1) := by decide +kernel
theorem dX6_goes_57 : decode cX6_goes 57 = .ok (.baload, 1) := by decide +kernel
theorem dX6_goes_58 : decode cX6_goes 58 = .ok (.aload_n 0, 1) := by decide +kernel
theorem dX6_goes_59 : decode cX6_goes 59 = .ok (.getfield 70, 3) := by decide +kernel
theorem dX6_goes_62 : decode cX6_goes 62 = .ok (.iload_n 2, 1) := by decide +kernel
theorem dX6_goes_63 : decode cX6_goes 63 = .ok (.baload, 1) := by decide +kernel
theorem dX6_goes_64 : decode cX6_goes 64 = .ok (.ifCond .ne 7, 3) := by decide +kernel
theorem dX6_goes_67 : decode cX6_goes 67 = .ok (.iconst 1, 1) := by decide +kernel
theorem dX6_goes_68 : decode cX6_goes 68 = .ok (.goto 4, 3) := by decide +kernel
theorem dX6_goes_71 : decode cX6_goes 71 = .ok (.iconst 0, 1) := by decide +kernel
theorem dX6_goes_72 : decode cX6_goes 72 = .ok (.iand, 1) := by decide +kernel
theorem dX6_goes_73 : decode cX6_goes 73 = .ok (.bastore, 1) := by decide +kernel
theorem dX6_goes_74 : decode cX6_goes 74 = .ok (.iinc 2 1, 3) := by decide +kernel
theorem dX6_goes_77 : decode cX6_goes 77 = .ok (.goto (-32), 3) := by decide +kernel
theorem dX6_goes_80 : decode cX6_goes 80 = .ok (.return_, 1) := by decide +kernel
theorem dX6_writes_0 : decode cX6_writes 0 = .ok (.aload_n 0, 1) := by decide +kernel
theorem dX6_writes_1 : decode cX6_writes 1 = .ok (.getfield 42, 3) := by decide +kernel
theorem dX6_writes_4 : decode cX6_writes 4 = .ok (.iload_n 1, 1) := by decide +kernel
theorem dX6_writes_5 : decode cX6_writes 5 = .ok (.baload, 1) := by decide +kernel
theorem dX6_writes_6 : decode cX6_writes 6 = .ok (.ifCond .eq 13, 3) := by decide +kernel
theorem dX6_writes_9 : decode cX6_writes 9 = .ok (.aload_n 0, 1) := by decide +kernel
theorem dX6_writes_10 : decode cX6_writes 10 = .ok (.getfield 49, 3) := by decide +kernel
theorem dX6_writes_13 : decode cX6_writes 13 = .ok (.iload_n 1, 1) := by decide +kernel
theorem dX6_writes_14 : decode cX6_writes 14 = .ok (.iaload, 1) := by decide +kernel
theorem dX6_writes_15 : decode cX6_writes 15 = .ok (.iconst 1, 1) := by decide +kernel
theorem dX6_writes_16 : decode cX6_writes 16 = .ok (.if_icmp .eq 4, 3) := by decide +kernel
theorem dX6_writes_19 : decode cX6_writes 19 = .ok (.return_, 1) := by decide +kernel
theorem dX6_writes_20 : decode cX6_writes 20 = .ok (.aload_n 0, 1) := by decide +kernel
theorem dX6_writes_21 : decode cX6_writes 21 = .ok (.getfield 46, 3) := by decide +kernel
theorem dX6_writes_24 : decode cX6_writes 24 = .ok (.iload_n 1, 1) := by decide +kernel
theorem dX6_writes_25 : decode cX6_writes 25 = .ok (.baload, 1) := by decide +kernel
theorem dX6_writes_26 : decode cX6_writes 26 = .ok (.ifCond .ne 49, 3) := by decide +kernel
theorem dX6_writes_29 : decode cX6_writes 29 = .ok (.aload_n 0, 1) := by decide +kernel
theorem dX6_writes_30 : decode cX6_writes 30 = .ok (.getfield 134, 3) := by decide +kernel
theorem dX6_writes_33 : decode cX6_writes 33 = .ok (.iconst 1, 1) := by decide +kernel
theorem dX6_writes_34 : decode cX6_writes 34 = .ok (.iand, 1) := by decide +kernel
theorem dX6_writes_35 : decode cX6_writes 35 = .ok (.ifCond .ne 4, 3) := by decide +kernel
theorem dX6_writes_38 : decode cX6_writes 38 = .ok (.return_, 1) := by decide +kernel
theorem dX6_writes_39 : decode cX6_writes 39 = .ok (.aload_n 0, 1) := by decide +kernel
theorem dX6_writes_40 : decode cX6_writes 40 = .ok (.getfield 46, 3) := by decide +kernel
theorem dX6_writes_43 : decode cX6_writes 43 = .ok (.iload_n 1, 1) := by decide +kernel
theorem dX6_writes_44 : decode cX6_writes 44 = .ok (.iconst 1, 1) := by decide +kernel
theorem dX6_writes_45 : decode cX6_writes 45 = .ok (.bastore, 1) := by decide +kernel
theorem dX6_writes_46 : decode cX6_writes 46 = .ok (.aload_n 0, 1) := by decide +kernel
theorem dX6_writes_47 : decode cX6_writes 47 = .ok (.getfield 52, 3) := by decide +kernel
theorem dX6_writes_50 : decode cX6_writes 50 = .ok (.iload_n 1, 1) := by decide +kernel
theorem dX6_writes_51 : decode cX6_writes 51 = .ok (.aload_n 0, 1) := by decide +kernel
theorem dX6_writes_52 : decode cX6_writes 52 = .ok (.aload_n 0, 1) := by decide +kernel
theorem dX6_writes_53 : decode cX6_writes 53 = .ok (.getfield 52, 3) := by decide +kernel
theorem dX6_writes_56 : decode cX6_writes 56 = .ok (.iload_n 1, 1) := by decide +kernel
theorem dX6_writes_57 : decode cX6_writes 57 = .ok (.iaload, 1) := by decide +kernel
theorem dX6_writes_58 : decode cX6_writes 58 = .ok (.invokevirtual 137, 3) := by decide +kernel
theorem dX6_writes_61 : decode cX6_writes 61 = .ok (.ifCond .eq 12, 3) := by decide +kernel
theorem dX6_writes_64 : decode cX6_writes 64 = .ok (.aload_n 0, 1) := by decide +kernel
theorem dX6_writes_65 : decode cX6_writes 65 = .ok (.getfield 52, 3) := by decide +kernel
theorem dX6_writes_68 : decode cX6_writes 68 = .ok (.iload_n 1, 1) := by decide +kernel
theorem dX6_writes_69 : decode cX6_writes 69 = .ok (.iaload, 1) := by decide +kernel
theorem dX6_writes_70 : decode cX6_writes 70 = .ok (.goto 4, 3) := by decide +kernel
theorem dX6_writes_73 : decode cX6_writes 73 = .ok (.iconst 0, 1) := by decide +kernel
theorem dX6_writes_74 : decode cX6_writes 74 = .ok (.iastore, 1) := by decide +kernel
theorem dX6_writes_75 : decode cX6_writes 75 = .ok (.iconst 0, 1) := by decide +kernel
theorem dX6_writes_76 : decode cX6_writes 76 = .ok (.istore_n 3, 1) := by decide +kernel
theorem dX6_writes_77 : decode cX6_writes 77 = .ok (.iconst 0, 1) := by decide +kernel
theorem dX6_writes_78 : decode cX6_writes 78 = .ok (.istore 4, 2) := by decide +kernel
theorem dX6_writes_80 : decode cX6_writes 80 = .ok (.iload 4, 2) := by decide +kernel
theorem dX6_writes_82 : decode cX6_writes 82 = .ok (.aload_n 0, 1) := by decide +kernel
theorem dX6_writes_83 : decode cX6_writes 83 = .ok (.getfield 64, 3) := by decide +kernel
theorem dX6_writes_86 : decode cX6_writes 86 = .ok (.iload_n 1, 1) := by decide +kernel
theorem dX6_writes_87 : decode cX6_writes 87 = .ok (.iaload, 1) := by decide +kernel
theorem dX6_writes_88 : decode cX6_writes 88 = .ok (.if_icmp .ge 62, 3) := by decide +kernel
theorem dX6_writes_91 : decode cX6_writes 91 = .ok (.aload_n 0, 1) := by decide +kernel
theorem dX6_writes_92 : decode cX6_writes 92 = .ok (.getfield 67, 3) := by decide +kernel
theorem dX6_writes_95 : decode cX6_writes 95 = .ok (.bipush 16, 2) := by decide +kernel
theorem dX6_writes_97 : decode cX6_writes 97 = .ok (.iload_n 1, 1) := by decide +kernel
theorem dX6_writes_98 : decode cX6_writes 98 = .ok (.imul, 1) := by decide +kernel
theorem dX6_writes_99 : decode cX6_writes 99 = .ok (.iload 4, 2) := by decide +kernel
theorem dX6_writes_101 : decode cX6_writes 101 = .ok (.iadd, 1) := by decide +kernel
theorem dX6_writes_102 : decode cX6_writes 102 = .ok (.iaload, 1) := by decide +kernel
theorem dX6_writes_103 : decode cX6_writes 103 = .ok (.istore 5, 2) := by decide +kernel
theorem dX6_writes_105 : decode cX6_writes 105 = .ok (.iload 5, 2) := by decide +kernel
theorem dX6_writes_107 : decode cX6_writes 107 = .ok (.bipush 20, 2) := by decide +kernel
theorem dX6_writes_109 : decode cX6_writes 109 = .ok (.irem, 1) := by decide +kernel
theorem dX6_writes_110 : decode cX6_writes 110 = .ok (.aload_n 0, 1) := by decide +kernel
theorem dX6_writes_111 : decode cX6_writes 111 = .ok (.getfield 17, 3) := by decide +kernel
theorem dX6_writes_114 : decode cX6_writes 114 = .ok (.iload_n 2, 1) := by decide +kernel
theorem dX6_writes_115 : decode cX6_writes 115 = .ok (.bipush 6, 2) := by decide +kernel
theorem dX6_writes_117 : decode cX6_writes 117 = .ok (.iadd, 1) := by decide +kernel
theorem dX6_writes_118 : decode cX6_writes 118 = .ok (.iload 5, 2) := by decide +kernel
theorem dX6_writes_120 : decode cX6_writes 120 = .ok (.bipush 20, 2) := by decide +kernel
theorem dX6_writes_122 : decode cX6_writes 122 = .ok (.idiv, 1) := by decide +kernel
theorem dX6_writes_123 : decode cX6_writes 123 = .ok (.iadd, 1) := by decide +kernel
theorem dX6_writes_124 : decode cX6_writes 124 = .ok (.iaload, 1) := by decide +kernel
theorem dX6_writes_125 : decode cX6_writes 125 = .ok (.if_icmp .lt 19, 3) := by decide +kernel
theorem dX6_writes_128 : decode cX6_writes 128 = .ok (.aload_n 0, 1) := by decide +kernel
theorem dX6_writes_129 : decode cX6_writes 129 = .ok (.getfield 67, 3) := by decide +kernel
theorem dX6_writes_132 : decode cX6_writes 132 = .ok (.bipush 16, 2) := by decide +kernel
theorem dX6_writes_134 : decode cX6_writes 134 = .ok (.iload_n 1, 1) := by decide +kernel
theorem dX6_writes_135 : decode cX6_writes 135 = .ok (.imul, 1) := by decide +kernel
theorem dX6_writes_136 : decode cX6_writes 136 = .ok (.iload_n 3, 1) := by decide +kernel
theorem dX6_writes_137 : decode cX6_writes 137 = .ok (.iadd, 1) := by decide +kernel
theorem dX6_writes_138 : decode cX6_writes 138 = .ok (.iload 5, 2) := by decide +kernel
theorem dX6_writes_140 : decode cX6_writes 140 = .ok (.iastore, 1) := by decide +kernel
theorem dX6_writes_141 : decode cX6_writes 141 = .ok (.iinc 3 1, 3) := by decide +kernel
theorem dX6_writes_144 : decode cX6_writes 144 = .ok (.iinc 4 1, 3) := by decide +kernel
theorem dX6_writes_147 : decode cX6_writes 147 = .ok (.goto (-67), 3) := by decide +kernel
theorem dX6_writes_150 : decode cX6_writes 150 = .ok (.aload_n 0, 1) := by decide +kernel
theorem dX6_writes_151 : decode cX6_writes 151 = .ok (.getfield 67, 3) := by decide +kernel
theorem dX6_writes_154 : decode cX6_writes 154 = .ok (.bipush 16, 2) := by decide +kernel
theorem dX6_writes_156 : decode cX6_writes 156 = .ok (.iload_n 1, 1) := by decide +kernel
theorem dX6_writes_157 : decode cX6_writes 157 = .ok (.imul, 1) := by decide +kernel
theorem dX6_writes_158 : decode cX6_writes 158 = .ok (.iload_n 3, 1) := by decide +kernel
theorem dX6_writes_159 : decode cX6_writes 159 = .ok (.iadd, 1) := by decide +kernel
theorem dX6_writes_160 : decode cX6_writes 160 = .ok (.iload_n 2, 1) := by decide +kernel
theorem dX6_writes_161 : decode cX6_writes 161 = .ok (.bipush 12, 2) := by decide +kernel
theorem dX6_writes_163 : decode cX6_writes 163 = .ok (.idiv, 1) := by decide +kernel
theorem dX6_writes_164 : decode cX6_writes 164 = .ok (.iastore, 1) := by decide +kernel
theorem dX6_writes_165 : decode cX6_writes 165 = .ok (.aload_n 0, 1) := by decide +kernel
theorem dX6_writes_166 : decode cX6_writes 166 = .ok (.getfield 64, 3) := by decide +kernel
theorem dX6_writes_169 : decode cX6_writes 169 = .ok (.iload_n 1, 1) := by decide +kernel
theorem dX6_writes_170 : decode cX6_writes 170 = .ok (.iload_n 3, 1) := by decide +kernel
theorem dX6_writes_171 : decode cX6_writes 171 = .ok (.iconst 1, 1) := by decide +kernel
theorem dX6_writes_172 : decode cX6_writes 172 = .ok (.iadd, 1) := by decide +kernel
theorem dX6_writes_173 : decode cX6_writes 173 = .ok (.iastore, 1) := by decide +kernel
theorem dX6_writes_174 : decode cX6_writes 174 = .ok (.return_, 1) := by decide +kernel
theorem dX6_does_0 : decode cX6_does 0 = .ok (.iload_n 1, 1) := by decide +kernel
theorem dX6_does_1 : decode cX6_does 1 = .ok (.iload_n 2, 1) := by decide +kernel
theorem dX6_does_2 : decode cX6_does 2 = .ok (.invokestatic 119, 3) := by decide +kernel
theorem dX6_does_5 : decode cX6_does 5 = .ok (.istore 4, 2) := by decide +kernel
theorem dX6_does_7 : decode cX6_does 7 = .ok (.aload_n 0, 1) := by decide +kernel
theorem dX6_does_8 : decode cX6_does 8 = .ok (.getfield 17, 3) := by decide +kernel
theorem dX6_does_11 : decode cX6_does 11 = .ok (.iload 4, 2) := by decide +kernel
theorem dX6_does_13 : decode cX6_does 13 = .ok (.iconst 1, 1) := by decide +kernel
theorem dX6_does_14 : decode cX6_does 14 = .ok (.iadd, 1) := by decide +kernel
theorem dX6_does_15 : decode cX6_does 15 = .ok (.iaload, 1) := by decide +kernel
theorem dX6_does_16 : decode cX6_does 16 = .ok (.istore 5, 2) := by decide +kernel
theorem dX6_does_18 : decode cX6_does 18 = .ok (.aload_n 0, 1) := by decide +kernel
theorem dX6_does_19 : decode cX6_does 19 = .ok (.getfield 17, 3) := by decide +kernel
theorem dX6_does_22 : decode cX6_does 22 = .ok (.iload 4, 2) := by decide +kernel
theorem dX6_does_24 : decode cX6_does 24 = .ok (.iconst 2, 1) := by decide +kernel
theorem dX6_does_25 : decode cX6_does 25 = .ok (.iadd, 1) := by decide +kernel
theorem dX6_does_26 : decode cX6_does 26 = .ok (.iaload, 1) := by decide +kernel
theorem dX6_does_27 : decode cX6_does 27 = .ok (.istore 6, 2) := by decide +kernel
theorem dX6_does_29 : decode cX6_does 29 = .ok (.aload_n 0, 1) := by decide +kernel
theorem dX6_does_30 : decode cX6_does 30 = .ok (.getfield 17, 3) := by decide +kernel
theorem dX6_does_33 : decode cX6_does 33 = .ok (.iload 4, 2) := by decide +kernel
theorem dX6_does_35 : decode cX6_does 35 = .ok (.iaload, 1) := by decide +kernel
theorem dX6_does_36 : decode cX6_does 36 = .ok (.istore 7, 2) := by decide +kernel
theorem dX6_does_38 : decode cX6_does 38 = .ok (.iload 7, 2) := by decide +kernel
theorem dX6_does_40 : decode cX6_does 40 = .ok (.ifCond .ne 88, 3) := by decide +kernel
theorem dX6_does_43 : decode cX6_does 43 = .ok (.aload_n 0, 1) := by decide +kernel
theorem dX6_does_44 : decode cX6_does 44 = .ok (.getfield 42, 3) := by decide +kernel
theorem dX6_does_47 : decode cX6_does 47 = .ok (.iload 5, 2) := by decide +kernel
theorem dX6_does_49 : decode cX6_does 49 = .ok (.baload, 1) := by decide +kernel
theorem dX6_does_50 : decode cX6_does 50 = .ok (.ifCond .ne 178, 3) := by decide +kernel
theorem dX6_does_53 : decode cX6_does 53 = .ok (.aload_n 0, 1) := by decide +kernel
theorem dX6_does_54 : decode cX6_does 54 = .ok (.getfield 42, 3) := by decide +kernel
theorem dX6_does_57 : decode cX6_does 57 = .ok (.iload 5, 2) := by decide +kernel
theorem dX6_does_59 : decode cX6_does 59 = .ok (.iconst 1, 1) := by decide +kernel
theorem dX6_does_60 : decode cX6_does 60 = .ok (.bastore, 1) := by decide +kernel
theorem dX6_does_61 : decode cX6_does 61 = .ok (.aload_n 0, 1) := by decide +kernel
theorem dX6_does_62 : decode cX6_does 62 = .ok (.getfield 46, 3) := by decide +kernel
theorem dX6_does_65 : decode cX6_does 65 = .ok (.iload 5, 2) := by decide +kernel
theorem dX6_does_67 : decode cX6_does 67 = .ok (.iconst 1, 1) := by decide +kernel
theorem dX6_does_68 : decode cX6_does 68 = .ok (.bastore, 1) := by decide +kernel
theorem dX6_does_69 : decode cX6_does 69 = .ok (.aload_n 0, 1) := by decide +kernel
theorem dX6_does_70 : decode cX6_does 70 = .ok (.getfield 49, 3) := by decide +kernel
theorem dX6_does_73 : decode cX6_does 73 = .ok (.iload 5, 2) := by decide +kernel
theorem dX6_does_75 : decode cX6_does 75 = .ok (.aload_n 0, 1) := by decide +kernel
theorem dX6_does_76 : decode cX6_does 76 = .ok (.getfield 17, 3) := by decide +kernel
theorem dX6_does_79 : decode cX6_does 79 = .ok (.iload 4, 2) := by decide +kernel
theorem dX6_does_81 : decode cX6_does 81 = .ok (.bipush 10, 2) := by decide +kernel
theorem dX6_does_83 : decode cX6_does 83 = .ok (.iadd, 1) := by decide +kernel
theorem dX6_does_84 : decode cX6_does 84 = .ok (.iaload, 1) := by decide +kernel
theorem dX6_does_85 : decode cX6_does 85 = .ok (.iastore, 1) := by decide +kernel
theorem dX6_does_86 : decode cX6_does 86 = .ok (.aload_n 0, 1) := by decide +kernel
theorem dX6_does_87 : decode cX6_does 87 = .ok (.getfield 64, 3) := by decide +kernel
theorem dX6_does_90 : decode cX6_does 90 = .ok (.iload 5, 2) := by decide +kernel
theorem dX6_does_92 : decode cX6_does 92 = .ok (.iconst 0, 1) := by decide +kernel
theorem dX6_does_93 : decode cX6_does 93 = .ok (.iastore, 1) := by decide +kernel
theorem dX6_does_94 : decode cX6_does 94 = .ok (.aload_n 0, 1) := by decide +kernel
theorem dX6_does_95 : decode cX6_does 95 = .ok (.iload 5, 2) := by decide +kernel
theorem dX6_does_97 : decode cX6_does 97 = .ok (.aload_n 0, 1) := by decide +kernel
theorem dX6_does_98 : decode cX6_does 98 = .ok (.iload 6, 2) := by decide +kernel
theorem dX6_does_100 : decode cX6_does 100 = .ok (.invokevirtual 137, 3) := by decide +kernel
theorem dX6_does_103 : decode cX6_does 103 = .ok (.ifCond .eq 8, 3) := by decide +kernel
theorem dX6_does_106 : decode cX6_does 106 = .ok (.iload 6, 2) := by decide +kernel
theorem dX6_does_108 : decode cX6_does 108 = .ok (.goto 4, 3) := by decide +kernel
theorem dX6_does_111 : decode cX6_does 111 = .ok (.iconst 0, 1) := by decide +kernel
theorem dX6_does_112 : decode cX6_does 112 = .ok (.aload_n 0, 1) := by decide +kernel
theorem dX6_does_113 : decode cX6_does 113 = .ok (.getfield 17, 3) := by decide +kernel
theorem dX6_does_116 : decode cX6_does 116 = .ok (.iload 4, 2) := by decide +kernel
theorem dX6_does_118 : decode cX6_does 118 = .ok (.iconst 3, 1) := by decide +kernel
theorem dX6_does_119 : decode cX6_does 119 = .ok (.iadd, 1) := by decide +kernel
theorem dX6_does_120 : decode cX6_does 120 = .ok (.iaload, 1) := by decide +kernel
theorem dX6_does_121 : decode cX6_does 121 = .ok (.iload_n 3, 1) := by decide +kernel
theorem dX6_does_122 : decode cX6_does 122 = .ok (.invokevirtual 141, 3) := by decide +kernel
theorem dX6_does_125 : decode cX6_does 125 = .ok (.goto 103, 3) := by decide +kernel
theorem dX6_does_128 : decode cX6_does 128 = .ok (.iload 7, 2) := by decide +kernel
theorem dX6_does_130 : decode cX6_does 130 = .ok (.iconst 1, 1) := by decide +kernel
theorem dX6_does_131 : decode cX6_does 131 = .ok (.if_icmp .ne 59, 3) := by decide +kernel
theorem dX6_does_134 : decode cX6_does 134 = .ok (.iload 5, 2) := by decide +kernel
theorem dX6_does_136 : decode cX6_does 136 = .ok (.ifCond .eq 92, 3) := by decide +kernel
theorem dX6_does_139 : decode cX6_does 139 = .ok (.aload_n 0, 1) := by decide +kernel
theorem dX6_does_140 : decode cX6_does 140 = .ok (.getfield 46, 3) := by decide +kernel
theorem dX6_does_143 : decode cX6_does 143 = .ok (.iload 5, 2) := by decide +kernel
theorem dX6_does_145 : decode cX6_does 145 = .ok (.baload, 1) := by decide +kernel
theorem dX6_does_146 : decode cX6_does 146 = .ok (.ifCond .eq 82, 3) := by decide +kernel
theorem dX6_does_149 : decode cX6_does 149 = .ok (.aload_n 0, 1) := by decide +kernel
theorem dX6_does_150 : decode cX6_does 150 = .ok (.iload 6, 2) := by decide +kernel
theorem dX6_does_152 : decode cX6_does 152 = .ok (.invokevirtual 137, 3) := by decide +kernel
theorem dX6_does_155 : decode cX6_does 155 = .ok (.ifCond .eq 73, 3) := by decide +kernel
theorem dX6_does_158 : decode cX6_does 158 = .ok (.aload_n 0, 1) := by decide +kernel
theorem dX6_does_159 : decode cX6_does 159 = .ok (.iload 6, 2) := by decide +kernel
theorem dX6_does_161 : decode cX6_does 161 = .ok (.iload 5, 2) := by decide +kernel
theorem dX6_does_163 : decode cX6_does 163 = .ok (.invokevirtual 130, 3) := by decide +kernel
theorem dX6_does_166 : decode cX6_does 166 = .ok (.ifCond .ne 62, 3) := by decide +kernel
theorem dX6_does_169 : decode cX6_does 169 = .ok (.aload_n 0, 1) := by decide +kernel
theorem dX6_does_170 : decode cX6_does 170 = .ok (.iload 5, 2) := by decide +kernel
theorem dX6_does_172 : decode cX6_does 172 = .ok (.iload 6, 2) := by decide +kernel
theorem dX6_does_174 : decode cX6_does 174 = .ok (.aload_n 0, 1) := by decide +kernel
theorem dX6_does_175 : decode cX6_does 175 = .ok (.getfield 17, 3) := by decide +kernel
theorem dX6_does_178 : decode cX6_does 178 = .ok (.iload 4, 2) := by decide +kernel
theorem dX6_does_180 : decode cX6_does 180 = .ok (.iconst 3, 1) := by decide +kernel
theorem dX6_does_181 : decode cX6_does 181 = .ok (.iadd, 1) := by decide +kernel
theorem dX6_does_182 : decode cX6_does 182 = .ok (.iaload, 1) := by decide +kernel
theorem dX6_does_183 : decode cX6_does 183 = .ok (.iload_n 3, 1) := by decide +kernel
theorem dX6_does_184 : decode cX6_does 184 = .ok (.invokevirtual 141, 3) := by decide +kernel
theorem dX6_does_187 : decode cX6_does 187 = .ok (.goto 41, 3) := by decide +kernel
theorem dX6_does_190 : decode cX6_does 190 = .ok (.iload 7, 2) := by decide +kernel
theorem dX6_does_192 : decode cX6_does 192 = .ok (.iconst 2, 1) := by decide +kernel
theorem dX6_does_193 : decode cX6_does 193 = .ok (.if_icmp .ne 27, 3) := by decide +kernel
theorem dX6_does_196 : decode cX6_does 196 = .ok (.iload 5, 2) := by decide +kernel
theorem dX6_does_198 : decode cX6_does 198 = .ok (.ifCond .eq 30, 3) := by decide +kernel
theorem dX6_does_201 : decode cX6_does 201 = .ok (.aload_n 0, 1) := by decide +kernel
theorem dX6_does_202 : decode cX6_does 202 = .ok (.getfield 46, 3) := by decide +kernel
end
section
theorem dX6_does_205 : decode cX6_does 205 = .ok (.iload 5, 2) := by decide +kernel
theorem dX6_does_207 : decode cX6_does 207 = .ok (.baload, 1) := by decide +kernel
theorem dX6_does_208 : decode cX6_does 208 = .ok (.ifCond .eq 20, 3) := by decide +kernel
theorem dX6_does_211 : decode cX6_does 211 = .ok (.aload_n 0, 1) := by decide +kernel
theorem dX6_does_212 : decode cX6_does 212 = .ok (.iload 5, 2) := by decide +kernel
theorem dX6_does_214 : decode cX6_does 214 = .ok (.invokevirtual 145, 3) := by decide +kernel
theorem dX6_does_217 : decode cX6_does 217 = .ok (.goto 11, 3) := by decide +kernel
theorem dX6_does_220 : decode cX6_does 220 = .ok (.aload_n 0, 1) := by decide +kernel
theorem dX6_does_221 : decode cX6_does 221 = .ok (.iload 5, 2) := by decide +kernel
theorem dX6_does_223 : decode cX6_does 223 = .ok (.iload 4, 2) := by decide +kernel
theorem dX6_does_225 : decode cX6_does 225 = .ok (.invokevirtual 149, 3) := by decide +kernel
theorem dX6_does_228 : decode cX6_does 228 = .ok (.return_, 1) := by decide +kernel
theorem dX6_tells_0 : decode cX6_tells 0 = .ok (.aload_n 0, 1) := by decide +kernel
theorem dX6_tells_1 : decode cX6_tells 1 = .ok (.invokevirtual 153, 3) := by decide +kernel
theorem dX6_tells_4 : decode cX6_tells 4 = .ok (.aload_n 0, 1) := by decide +kernel
theorem dX6_tells_5 : decode cX6_tells 5 = .ok (.invokevirtual 123, 3) := by decide +kernel
theorem dX6_tells_8 : decode cX6_tells 8 = .ok (.iconst 0, 1) := by decide +kernel
theorem dX6_tells_9 : decode cX6_tells 9 = .ok (.istore_n 1, 1) := by decide +kernel
theorem dX6_tells_10 : decode cX6_tells 10 = .ok (.iload_n 1, 1) := by decide +kernel
theorem dX6_tells_11 : decode cX6_tells 11 = .ok (.bipush 12, 2) := by decide +kernel
theorem dX6_tells_13 : decode cX6_tells 13 = .ok (.if_icmp .ge 75, 3) := by decide +kernel
theorem dX6_tells_16 : decode cX6_tells 16 = .ok (.aload_n 0, 1) := by decide +kernel
theorem dX6_tells_17 : decode cX6_tells 17 = .ok (.getfield 42, 3) := by decide +kernel
theorem dX6_tells_20 : decode cX6_tells 20 = .ok (.iload_n 1, 1) := by decide +kernel
theorem dX6_tells_21 : decode cX6_tells 21 = .ok (.iload_n 1, 1) := by decide +kernel
theorem dX6_tells_22 : decode cX6_tells 22 = .ok (.ifCond .ne 7, 3) := by decide +kernel
theorem dX6_tells_25 : decode cX6_tells 25 = .ok (.iconst 1, 1) := by decide +kernel
theorem dX6_tells_26 : decode cX6_tells 26 = .ok (.goto 4, 3) := by decide +kernel
theorem dX6_tells_29 : decode cX6_tells 29 = .ok (.iconst 0, 1) := by decide +kernel
theorem dX6_tells_30 : decode cX6_tells 30 = .ok (.bastore, 1) := by decide +kernel
theorem dX6_tells_31 : decode cX6_tells 31 = .ok (.aload_n 0, 1) := by decide +kernel
theorem dX6_tells_32 : decode cX6_tells 32 = .ok (.getfield 46, 3) := by decide +kernel
theorem dX6_tells_35 : decode cX6_tells 35 = .ok (.iload_n 1, 1) := by decide +kernel
theorem dX6_tells_36 : decode cX6_tells 36 = .ok (.iload_n 1, 1) := by decide +kernel
theorem dX6_tells_37 : decode cX6_tells 37 = .ok (.ifCond .ne 7, 3) := by decide +kernel
theorem dX6_tells_40 : decode cX6_tells 40 = .ok (.iconst 1, 1) := by decide +kernel
theorem dX6_tells_41 : decode cX6_tells 41 = .ok (.goto 4, 3) := by decide +kernel
theorem dX6_tells_44 : decode cX6_tells 44 = .ok (.iconst 0, 1) := by decide +kernel
theorem dX6_tells_45 : decode cX6_tells 45 = .ok (.bastore, 1) := by decide +kernel
theorem dX6_tells_46 : decode cX6_tells 46 = .ok (.aload_n 0, 1) := by decide +kernel
theorem dX6_tells_47 : decode cX6_tells 47 = .ok (.getfield 49, 3) := by decide +kernel
theorem dX6_tells_50 : decode cX6_tells 50 = .ok (.iload_n 1, 1) := by decide +kernel
theorem dX6_tells_51 : decode cX6_tells 51 = .ok (.iload_n 1, 1) := by decide +kernel
theorem dX6_tells_52 : decode cX6_tells 52 = .ok (.ifCond .ne 7, 3) := by decide +kernel
theorem dX6_tells_55 : decode cX6_tells 55 = .ok (.iconst 2, 1) := by decide +kernel
theorem dX6_tells_56 : decode cX6_tells 56 = .ok (.goto 4, 3) := by decide +kernel
theorem dX6_tells_59 : decode cX6_tells 59 = .ok (.iconst 0, 1) := by decide +kernel
theorem dX6_tells_60 : decode cX6_tells 60 = .ok (.iastore, 1) := by decide +kernel
theorem dX6_tells_61 : decode cX6_tells 61 = .ok (.aload_n 0, 1) := by decide +kernel
theorem dX6_tells_62 : decode cX6_tells 62 = .ok (.getfield 52, 3) := by decide +kernel
theorem dX6_tells_65 : decode cX6_tells 65 = .ok (.iload_n 1, 1) := by decide +kernel
theorem dX6_tells_66 : decode cX6_tells 66 = .ok (.iconst 0, 1) := by decide +kernel
theorem dX6_tells_67 : decode cX6_tells 67 = .ok (.iastore, 1) := by decide +kernel
theorem dX6_tells_68 : decode cX6_tells 68 = .ok (.aload_n 0, 1) := by decide +kernel
theorem dX6_tells_69 : decode cX6_tells 69 = .ok (.getfield 55, 3) := by decide +kernel
theorem dX6_tells_72 : decode cX6_tells 72 = .ok (.iload_n 1, 1) := by decide +kernel
theorem dX6_tells_73 : decode cX6_tells 73 = .ok (.iconst 0, 1) := by decide +kernel
theorem dX6_tells_74 : decode cX6_tells 74 = .ok (.iastore, 1) := by decide +kernel
theorem dX6_tells_75 : decode cX6_tells 75 = .ok (.aload_n 0, 1) := by decide +kernel
theorem dX6_tells_76 : decode cX6_tells 76 = .ok (.getfield 64, 3) := by decide +kernel
theorem dX6_tells_79 : decode cX6_tells 79 = .ok (.iload_n 1, 1) := by decide +kernel
theorem dX6_tells_80 : decode cX6_tells 80 = .ok (.iconst 0, 1) := by decide +kernel
theorem dX6_tells_81 : decode cX6_tells 81 = .ok (.iastore, 1) := by decide +kernel
theorem dX6_tells_82 : decode cX6_tells 82 = .ok (.iinc 1 1, 3) := by decide +kernel
theorem dX6_tells_85 : decode cX6_tells 85 = .ok (.goto (-75), 3) := by decide +kernel
theorem dX6_tells_88 : decode cX6_tells 88 = .ok (.iconst 0, 1) := by decide +kernel
theorem dX6_tells_89 : decode cX6_tells 89 = .ok (.istore_n 1, 1) := by decide +kernel
theorem dX6_tells_90 : decode cX6_tells 90 = .ok (.aload_n 0, 1) := by decide +kernel
theorem dX6_tells_91 : decode cX6_tells 91 = .ok (.aload_n 0, 1) := by decide +kernel
theorem dX6_tells_92 : decode cX6_tells 92 = .ok (.getfield 39, 3) := by decide +kernel
theorem dX6_tells_95 : decode cX6_tells 95 = .ok (.invokevirtual 126, 3) := by decide +kernel
theorem dX6_tells_98 : decode cX6_tells 98 = .ok (.istore_n 2, 1) := by decide +kernel
theorem dX6_tells_99 : decode cX6_tells 99 = .ok (.iload_n 2, 1) := by decide +kernel
theorem dX6_tells_100 : decode cX6_tells 100 = .ok (.bipush (-9), 2) := by decide +kernel
theorem dX6_tells_102 : decode cX6_tells 102 = .ok (.if_icmp .eq 55, 3) := by decide +kernel
theorem dX6_tells_105 : decode cX6_tells 105 = .ok (.aload_n 0, 1) := by decide +kernel
theorem dX6_tells_106 : decode cX6_tells 106 = .ok (.getfield 36, 3) := by decide +kernel
theorem dX6_tells_109 : decode cX6_tells 109 = .ok (.iload_n 2, 1) := by decide +kernel
theorem dX6_tells_110 : decode cX6_tells 110 = .ok (.iaload, 1) := by decide +kernel
theorem dX6_tells_111 : decode cX6_tells 111 = .ok (.aload_n 0, 1) := by decide +kernel
theorem dX6_tells_112 : decode cX6_tells 112 = .ok (.getfield 33, 3) := by decide +kernel
theorem dX6_tells_115 : decode cX6_tells 115 = .ok (.iload_n 2, 1) := by decide +kernel
theorem dX6_tells_116 : decode cX6_tells 116 = .ok (.iaload, 1) := by decide +kernel
theorem dX6_tells_117 : decode cX6_tells 117 = .ok (.if_icmp .ge 15, 3) := by decide +kernel
theorem dX6_tells_120 : decode cX6_tells 120 = .ok (.aload_n 0, 1) := by decide +kernel
theorem dX6_tells_121 : decode cX6_tells 121 = .ok (.iload_n 2, 1) := by decide +kernel
theorem dX6_tells_122 : decode cX6_tells 122 = .ok (.aload_n 0, 1) := by decide +kernel
theorem dX6_tells_123 : decode cX6_tells 123 = .ok (.getfield 36, 3) := by decide +kernel
theorem dX6_tells_126 : decode cX6_tells 126 = .ok (.iload_n 2, 1) := by decide +kernel
theorem dX6_tells_127 : decode cX6_tells 127 = .ok (.iaload, 1) := by decide +kernel
theorem dX6_tells_128 : decode cX6_tells 128 = .ok (.iload_n 1, 1) := by decide +kernel
theorem dX6_tells_129 : decode cX6_tells 129 = .ok (.invokevirtual 156, 3) := by decide +kernel
theorem dX6_tells_132 : decode cX6_tells 132 = .ok (.iinc 1 1, 3) := by decide +kernel
theorem dX6_tells_135 : decode cX6_tells 135 = .ok (.aload_n 0, 1) := by decide +kernel
theorem dX6_tells_136 : decode cX6_tells 136 = .ok (.getfield 36, 3) := by decide +kernel
theorem dX6_tells_139 : decode cX6_tells 139 = .ok (.iload_n 2, 1) := by decide +kernel
theorem dX6_tells_140 : decode cX6_tells 140 = .ok (.dup2, 1) := by decide +kernel
theorem dX6_tells_141 : decode cX6_tells 141 = .ok (.iaload, 1) := by decide +kernel
theorem dX6_tells_142 : decode cX6_tells 142 = .ok (.iconst 1, 1) := by decide +kernel
theorem dX6_tells_143 : decode cX6_tells 143 = .ok (.iadd, 1) := by decide +kernel
theorem dX6_tells_144 : decode cX6_tells 144 = .ok (.iastore, 1) := by decide +kernel
theorem dX6_tells_145 : decode cX6_tells 145 = .ok (.aload_n 0, 1) := by decide +kernel
theorem dX6_tells_146 : decode cX6_tells 146 = .ok (.aload_n 0, 1) := by decide +kernel
theorem dX6_tells_147 : decode cX6_tells 147 = .ok (.getfield 39, 3) := by decide +kernel
theorem dX6_tells_150 : decode cX6_tells 150 = .ok (.invokevirtual 126, 3) := by decide +kernel
theorem dX6_tells_153 : decode cX6_tells 153 = .ok (.istore_n 2, 1) := by decide +kernel
theorem dX6_tells_154 : decode cX6_tells 154 = .ok (.goto (-55), 3) := by decide +kernel
theorem dX6_tells_157 : decode cX6_tells 157 = .ok (.aload_n 0, 1) := by decide +kernel
theorem dX6_tells_158 : decode cX6_tells 158 = .ok (.invokevirtual 160, 3) := by decide +kernel
theorem dX6_tells_161 : decode cX6_tells 161 = .ok (.return_, 1) := by decide +kernel
theorem dX6_isAhead_0 : decode cX6_isAhead 0 = .ok (.aload_n 0, 1) := by decide +kernel
theorem dX6_isAhead_1 : decode cX6_isAhead 1 = .ok (.getfield 134, 3) := by decide +kernel
theorem dX6_isAhead_4 : decode cX6_isAhead 4 = .ok (.iconst 2, 1) := by decide +kernel
theorem dX6_isAhead_5 : decode cX6_isAhead 5 = .ok (.iand, 1) := by decide +kernel
theorem dX6_isAhead_6 : decode cX6_isAhead 6 = .ok (.ifCond .ne 26, 3) := by decide +kernel
theorem dX6_isAhead_9 : decode cX6_isAhead 9 = .ok (.aload_n 0, 1) := by decide +kernel
theorem dX6_isAhead_10 : decode cX6_isAhead 10 = .ok (.getfield 58, 3) := by decide +kernel
theorem dX6_isAhead_13 : decode cX6_isAhead 13 = .ok (.iload_n 1, 1) := by decide +kernel
theorem dX6_isAhead_14 : decode cX6_isAhead 14 = .ok (.iaload, 1) := by decide +kernel
theorem dX6_isAhead_15 : decode cX6_isAhead 15 = .ok (.aload_n 0, 1) := by decide +kernel
theorem dX6_isAhead_16 : decode cX6_isAhead 16 = .ok (.getfield 58, 3) := by decide +kernel
theorem dX6_isAhead_19 : decode cX6_isAhead 19 = .ok (.iload_n 2, 1) := by decide +kernel
theorem dX6_isAhead_20 : decode cX6_isAhead 20 = .ok (.iaload, 1) := by decide +kernel
theorem dX6_isAhead_21 : decode cX6_isAhead 21 = .ok (.if_icmp .le 7, 3) := by decide +kernel
theorem dX6_isAhead_24 : decode cX6_isAhead 24 = .ok (.iconst 1, 1) := by decide +kernel
theorem dX6_isAhead_25 : decode cX6_isAhead 25 = .ok (.goto 27, 3) := by decide +kernel
theorem dX6_isAhead_28 : decode cX6_isAhead 28 = .ok (.iconst 0, 1) := by decide +kernel
theorem dX6_isAhead_29 : decode cX6_isAhead 29 = .ok (.goto 23, 3) := by decide +kernel
theorem dX6_isAhead_32 : decode cX6_isAhead 32 = .ok (.aload_n 0, 1) := by decide +kernel
theorem dX6_isAhead_33 : decode cX6_isAhead 33 = .ok (.getfield 58, 3) := by decide +kernel
theorem dX6_isAhead_36 : decode cX6_isAhead 36 = .ok (.iload_n 1, 1) := by decide +kernel
theorem dX6_isAhead_37 : decode cX6_isAhead 37 = .ok (.iaload, 1) := by decide +kernel
theorem dX6_isAhead_38 : decode cX6_isAhead 38 = .ok (.aload_n 0, 1) := by decide +kernel
theorem dX6_isAhead_39 : decode cX6_isAhead 39 = .ok (.getfield 58, 3) := by decide +kernel
theorem dX6_isAhead_42 : decode cX6_isAhead 42 = .ok (.iload_n 2, 1) := by decide +kernel
theorem dX6_isAhead_43 : decode cX6_isAhead 43 = .ok (.iaload, 1) := by decide +kernel
theorem dX6_isAhead_44 : decode cX6_isAhead 44 = .ok (.if_icmp .ge 7, 3) := by decide +kernel
theorem dX6_isAhead_47 : decode cX6_isAhead 47 = .ok (.iconst 1, 1) := by decide +kernel
theorem dX6_isAhead_48 : decode cX6_isAhead 48 = .ok (.goto 4, 3) := by decide +kernel
theorem dX6_isAhead_51 : decode cX6_isAhead 51 = .ok (.iconst 0, 1) := by decide +kernel
theorem dX6_isAhead_52 : decode cX6_isAhead 52 = .ok (.ireturn, 1) := by decide +kernel
theorem dX6_names_0 : decode cX6_names 0 = .ok (.iconst 0, 1) := by decide +kernel
theorem dX6_names_1 : decode cX6_names 1 = .ok (.istore_n 1, 1) := by decide +kernel
theorem dX6_names_2 : decode cX6_names 2 = .ok (.iload_n 1, 1) := by decide +kernel
theorem dX6_names_3 : decode cX6_names 3 = .ok (.bipush 12, 2) := by decide +kernel
theorem dX6_names_5 : decode cX6_names 5 = .ok (.if_icmp .ge 111, 3) := by decide +kernel
theorem dX6_names_8 : decode cX6_names 8 = .ok (.iconst 1, 1) := by decide +kernel
theorem dX6_names_9 : decode cX6_names 9 = .ok (.istore_n 2, 1) := by decide +kernel
theorem dX6_names_10 : decode cX6_names 10 = .ok (.iconst 1, 1) := by decide +kernel
theorem dX6_names_11 : decode cX6_names 11 = .ok (.istore_n 3, 1) := by decide +kernel
theorem dX6_names_12 : decode cX6_names 12 = .ok (.iload_n 3, 1) := by decide +kernel
theorem dX6_names_13 : decode cX6_names 13 = .ok (.bipush 12, 2) := by decide +kernel
theorem dX6_names_15 : decode cX6_names 15 = .ok (.if_icmp .ge 74, 3) := by decide +kernel
theorem dX6_names_18 : decode cX6_names 18 = .ok (.iload_n 1, 1) := by decide +kernel
theorem dX6_names_19 : decode cX6_names 19 = .ok (.ifCond .le 70, 3) := by decide +kernel
theorem dX6_names_22 : decode cX6_names 22 = .ok (.iload_n 2, 1) := by decide +kernel
theorem dX6_names_23 : decode cX6_names 23 = .ok (.iload_n 3, 1) := by decide +kernel
theorem dX6_names_24 : decode cX6_names 24 = .ok (.iload_n 1, 1) := by decide +kernel
theorem dX6_names_25 : decode cX6_names 25 = .ok (.if_icmp .eq 51, 3) := by decide +kernel
theorem dX6_names_28 : decode cX6_names 28 = .ok (.aload_n 0, 1) := by decide +kernel
theorem dX6_names_29 : decode cX6_names 29 = .ok (.getfield 46, 3) := by decide +kernel
theorem dX6_names_32 : decode cX6_names 32 = .ok (.iload_n 3, 1) := by decide +kernel
theorem dX6_names_33 : decode cX6_names 33 = .ok (.baload, 1) := by decide +kernel
theorem dX6_names_34 : decode cX6_names 34 = .ok (.ifCond .eq 42, 3) := by decide +kernel
theorem dX6_names_37 : decode cX6_names 37 = .ok (.aload_n 0, 1) := by decide +kernel
theorem dX6_names_38 : decode cX6_names 38 = .ok (.getfield 52, 3) := by decide +kernel
theorem dX6_names_41 : decode cX6_names 41 = .ok (.iload_n 3, 1) := by decide +kernel
theorem dX6_names_42 : decode cX6_names 42 = .ok (.iaload, 1) := by decide +kernel
theorem dX6_names_43 : decode cX6_names 43 = .ok (.aload_n 0, 1) := by decide +kernel
theorem dX6_names_44 : decode cX6_names 44 = .ok (.getfield 52, 3) := by decide +kernel
theorem dX6_names_47 : decode cX6_names 47 = .ok (.iload_n 1, 1) := by decide +kernel
theorem dX6_names_48 : decode cX6_names 48 = .ok (.iaload, 1) := by decide +kernel
theorem dX6_names_49 : decode cX6_names 49 = .ok (.if_icmp .ne 27, 3) := by decide +kernel
theorem dX6_names_52 : decode cX6_names 52 = .ok (.aload_n 0, 1) := by decide +kernel
theorem dX6_names_53 : decode cX6_names 53 = .ok (.getfield 55, 3) := by decide +kernel
theorem dX6_names_56 : decode cX6_names 56 = .ok (.iload_n 3, 1) := by decide +kernel
theorem dX6_names_57 : decode cX6_names 57 = .ok (.iaload, 1) := by decide +kernel
theorem dX6_names_58 : decode cX6_names 58 = .ok (.aload_n 0, 1) := by decide +kernel
theorem dX6_names_59 : decode cX6_names 59 = .ok (.getfield 55, 3) := by decide +kernel
theorem dX6_names_62 : decode cX6_names 62 = .ok (.iload_n 1, 1) := by decide +kernel
theorem dX6_names_63 : decode cX6_names 63 = .ok (.iaload, 1) := by decide +kernel
theorem dX6_names_64 : decode cX6_names 64 = .ok (.if_icmp .ne 12, 3) := by decide +kernel
theorem dX6_names_67 : decode cX6_names 67 = .ok (.aload_n 0, 1) := by decide +kernel
theorem dX6_names_68 : decode cX6_names 68 = .ok (.iload_n 1, 1) := by decide +kernel
theorem dX6_names_69 : decode cX6_names 69 = .ok (.iload_n 3, 1) := by decide +kernel
theorem dX6_names_70 : decode cX6_names 70 = .ok (.invokevirtual 163, 3) := by decide +kernel
theorem dX6_names_73 : decode cX6_names 73 = .ok (.ifCond .eq 7, 3) := by decide +kernel
theorem dX6_names_76 : decode cX6_names 76 = .ok (.iconst 1, 1) := by decide +kernel
theorem dX6_names_77 : decode cX6_names 77 = .ok (.goto 4, 3) := by decide +kernel
theorem dX6_names_80 : decode cX6_names 80 = .ok (.iconst 0, 1) := by decide +kernel
theorem dX6_names_81 : decode cX6_names 81 = .ok (.iand, 1) := by decide +kernel
theorem dX6_names_82 : decode cX6_names 82 = .ok (.istore_n 2, 1) := by decide +kernel
theorem dX6_names_83 : decode cX6_names 83 = .ok (.iinc 3 1, 3) := by decide +kernel
theorem dX6_names_86 : decode cX6_names 86 = .ok (.goto (-74), 3) := by decide +kernel
theorem dX6_names_89 : decode cX6_names 89 = .ok (.aload_n 0, 1) := by decide +kernel
theorem dX6_names_90 : decode cX6_names 90 = .ok (.getfield 61, 3) := by decide +kernel
theorem dX6_names_93 : decode cX6_names 93 = .ok (.iload_n 1, 1) := by decide +kernel
theorem dX6_names_94 : decode cX6_names 94 = .ok (.iload_n 2, 1) := by decide +kernel
theorem dX6_names_95 : decode cX6_names 95 = .ok (.ifCond .eq 12, 3) := by decide +kernel
theorem dX6_names_98 : decode cX6_names 98 = .ok (.aload_n 0, 1) := by decide +kernel
theorem dX6_names_99 : decode cX6_names 99 = .ok (.getfield 55, 3) := by decide +kernel
theorem dX6_names_102 : decode cX6_names 102 = .ok (.iload_n 1, 1) := by decide +kernel
theorem dX6_names_103 : decode cX6_names 103 = .ok (.iaload, 1) := by decide +kernel
theorem dX6_names_104 : decode cX6_names 104 = .ok (.goto 5, 3) := by decide +kernel
theorem dX6_names_107 : decode cX6_names 107 = .ok (.bipush (-9), 2) := by decide +kernel
theorem dX6_names_109 : decode cX6_names 109 = .ok (.iastore, 1) := by decide +kernel
theorem dX6_names_110 : decode cX6_names 110 = .ok (.iinc 1 1, 3) := by decide +kernel
theorem dX6_names_113 : decode cX6_names 113 = .ok (.goto (-111), 3) := by decide +kernel
theorem dX6_names_116 : decode cX6_names 116 = .ok (.aload_n 0, 1) := by decide +kernel
theorem dX6_names_117 : decode cX6_names 117 = .ok (.invokevirtual 166, 3) := by decide +kernel
theorem dX6_names_120 : decode cX6_names 120 = .ok (.istore_n 1, 1) := by decide +kernel
theorem dX6_names_121 : decode cX6_names 121 = .ok (.iload_n 1, 1) := by decide +kernel
theorem dX6_names_122 : decode cX6_names 122 = .ok (.bipush (-9), 2) := by decide +kernel
theorem dX6_names_124 : decode cX6_names 124 = .ok (.if_icmp .eq 41, 3) := by decide +kernel
theorem dX6_names_127 : decode cX6_names 127 = .ok (.bipush 10, 2) := by decide +kernel
theorem dX6_names_129 : decode cX6_names 129 = .ok (.istore_n 2, 1) := by decide +kernel
theorem dX6_names_130 : decode cX6_names 130 = .ok (.aload_n 0, 1) := by decide +kernel
theorem dX6_names_131 : decode cX6_names 131 = .ok (.aload_n 0, 1) := by decide +kernel
theorem dX6_names_132 : decode cX6_names 132 = .ok (.getfield 52, 3) := by decide +kernel
theorem dX6_names_135 : decode cX6_names 135 = .ok (.iload_n 1, 1) := by decide +kernel
theorem dX6_names_136 : decode cX6_names 136 = .ok (.iaload, 1) := by decide +kernel
theorem dX6_names_137 : decode cX6_names 137 = .ok (.iload_n 2, 1) := by decide +kernel
theorem dX6_names_138 : decode cX6_names 138 = .ok (.invokevirtual 170, 3) := by decide +kernel
theorem dX6_names_141 : decode cX6_names 141 = .ok (.ifCond .eq 9, 3) := by decide +kernel
theorem dX6_names_144 : decode cX6_names 144 = .ok (.iinc 2 1, 3) := by decide +kernel
theorem dX6_names_147 : decode cX6_names 147 = .ok (.goto (-17), 3) := by decide +kernel
theorem dX6_names_150 : decode cX6_names 150 = .ok (.aload_n 0, 1) := by decide +kernel
theorem dX6_names_151 : decode cX6_names 151 = .ok (.getfield 61, 3) := by decide +kernel
theorem dX6_names_154 : decode cX6_names 154 = .ok (.iload_n 1, 1) := by decide +kernel
theorem dX6_names_155 : decode cX6_names 155 = .ok (.iload_n 2, 1) := by decide +kernel
theorem dX6_names_156 : decode cX6_names 156 = .ok (.iastore, 1) := by decide +kernel
theorem dX6_names_157 : decode cX6_names 157 = .ok (.aload_n 0, 1) := by decide +kernel
theorem dX6_names_158 : decode cX6_names 158 = .ok (.invokevirtual 166, 3) := by decide +kernel
theorem dX6_names_161 : decode cX6_names 161 = .ok (.istore_n 1, 1) := by decide +kernel
theorem dX6_names_162 : decode cX6_names 162 = .ok (.goto (-41), 3) := by decide +kernel
theorem dX6_names_165 : decode cX6_names 165 = .ok (.return_, 1) := by decide +kernel
theorem dX6_nextNameless_0 : decode cX6_nextNameless 0 = .ok (.bipush (-9), 2) := by decide +kernel
theorem dX6_nextNameless_2 : decode cX6_nextNameless 2 = .ok (.istore_n 1, 1) := by decide +kernel
theorem dX6_nextNameless_3 : decode cX6_nextNameless 3 = .ok (.iconst 1, 1) := by decide +kernel
theorem dX6_nextNameless_4 : decode cX6_nextNameless 4 = .ok (.istore_n 2, 1) := by decide +kernel
theorem dX6_nextNameless_5 : decode cX6_nextNameless 5 = .ok (.iload_n 2, 1) := by decide +kernel
theorem dX6_nextNameless_6 : decode cX6_nextNameless 6 = .ok (.bipush 12, 2) := by decide +kernel
theorem dX6_nextNameless_8 : decode cX6_nextNameless 8 = .ok (.if_icmp .ge 50, 3) := by decide +kernel
theorem dX6_nextNameless_11 : decode cX6_nextNameless 11 = .ok (.aload_n 0, 1) := by decide +kernel
theorem dX6_nextNameless_12 : decode cX6_nextNameless 12 = .ok (.getfield 46, 3) := by decide +kernel
theorem dX6_nextNameless_15 : decode cX6_nextNameless 15 = .ok (.iload_n 2, 1) := by decide +kernel
theorem dX6_nextNameless_16 : decode cX6_nextNameless 16 = .ok (.baload, 1) := by decide +kernel
theorem dX6_nextNameless_17 : decode cX6_nextNameless 17 = .ok (.ifCond .eq 33, 3) := by decide +kernel
theorem dX6_nextNameless_20 : decode cX6_nextNameless 20 = .ok (.aload_n 0, 1) := by decide +kernel
theorem dX6_nextNameless_21 : decode cX6_nextNameless 21 = .ok (.getfield 61, 3) := by decide +kernel
theorem dX6_nextNameless_24 : decode cX6_nextNameless 24 = .ok (.iload_n 2, 1) := by decide +kernel
theorem dX6_nextNameless_25 : decode cX6_nextNameless 25 = .ok (.iaload, 1) := by decide +kernel
theorem dX6_nextNameless_26 : decode cX6_nextNameless 26 = .ok (.bipush (-9), 2) := by decide +kernel
theorem dX6_nextNameless_28 : decode cX6_nextNameless 28 = .ok (.if_icmp .ne 22, 3) := by decide +kernel
theorem dX6_nextNameless_31 : decode cX6_nextNameless 31 = .ok (.iload_n 1, 1) := by decide +kernel
theorem dX6_nextNameless_32 : decode cX6_nextNameless 32 = .ok (.bipush (-9), 2) := by decide +kernel
theorem dX6_nextNameless_34 : decode cX6_nextNameless 34 = .ok (.if_icmp .eq 12, 3) := by decide +kernel
theorem dX6_nextNameless_37 : decode cX6_nextNameless 37 = .ok (.aload_n 0, 1) := by decide +kernel
theorem dX6_nextNameless_38 : decode cX6_nextNameless 38 = .ok (.iload_n 2, 1) := by decide +kernel
theorem dX6_nextNameless_39 : decode cX6_nextNameless 39 = .ok (.iload_n 1, 1) := by decide +kernel
theorem dX6_nextNameless_40 : decode cX6_nextNameless 40 = .ok (.invokevirtual 163, 3) := by decide +kernel
theorem dX6_nextNameless_43 : decode cX6_nextNameless 43 = .ok (.ifCond .eq 7, 3) := by decide +kernel
theorem dX6_nextNameless_46 : decode cX6_nextNameless 46 = .ok (.iload_n 2, 1) := by decide +kernel
theorem dX6_nextNameless_47 : decode cX6_nextNameless 47 = .ok (.goto 4, 3) := by decide +kernel
theorem dX6_nextNameless_50 : decode cX6_nextNameless 50 = .ok (.iload_n 1, 1) := by decide +kernel
theorem dX6_nextNameless_51 : decode cX6_nextNameless 51 = .ok (.istore_n 1, 1) := by decide +kernel
theorem dX6_nextNameless_52 : decode cX6_nextNameless 52 = .ok (.iinc 2 1, 3) := by decide +kernel
theorem dX6_nextNameless_55 : decode cX6_nextNameless 55 = .ok (.goto (-50), 3) := by decide +kernel
theorem dX6_nextNameless_58 : decode cX6_nextNameless 58 = .ok (.iload_n 1, 1) := by decide +kernel
theorem dX6_nextNameless_59 : decode cX6_nextNameless 59 = .ok (.ireturn, 1) := by decide +kernel
theorem dX6_isTaken_0 : decode cX6_isTaken 0 = .ok (.iconst 0, 1) := by decide +kernel
theorem dX6_isTaken_1 : decode cX6_isTaken 1 = .ok (.istore_n 3, 1) := by decide +kernel
theorem dX6_isTaken_2 : decode cX6_isTaken 2 = .ok (.iconst 1, 1) := by decide +kernel
theorem dX6_isTaken_3 : decode cX6_isTaken 3 = .ok (.istore 4, 2) := by decide +kernel
theorem dX6_isTaken_5 : decode cX6_isTaken 5 = .ok (.iload 4, 2) := by decide +kernel
theorem dX6_isTaken_7 : decode cX6_isTaken 7 = .ok (.bipush 12, 2) := by decide +kernel
theorem dX6_isTaken_9 : decode cX6_isTaken 9 = .ok (.if_icmp .ge 49, 3) := by decide +kernel
theorem dX6_isTaken_12 : decode cX6_isTaken 12 = .ok (.iload_n 3, 1) := by decide +kernel
theorem dX6_isTaken_13 : decode cX6_isTaken 13 = .ok (.aload_n 0, 1) := by decide +kernel
theorem dX6_isTaken_14 : decode cX6_isTaken 14 = .ok (.getfield 46, 3) := by decide +kernel
theorem dX6_isTaken_17 : decode cX6_isTaken 17 = .ok (.iload 4, 2) := by decide +kernel
theorem dX6_isTaken_19 : decode cX6_isTaken 19 = .ok (.baload, 1) := by decide +kernel
theorem dX6_isTaken_20 : decode cX6_isTaken 20 = .ok (.ifCond .eq 29, 3) := by decide +kernel
theorem dX6_isTaken_23 : decode cX6_isTaken 23 = .ok (.aload_n 0, 1) := by decide +kernel
theorem dX6_isTaken_24 : decode cX6_isTaken 24 = .ok (.getfield 52, 3) := by decide +kernel
theorem dX6_isTaken_27 : decode cX6_isTaken 27 = .ok (.iload 4, 2) := by decide +kernel
theorem dX6_isTaken_29 : decode cX6_isTaken 29 = .ok (.iaload, 1) := by decide +kernel
theorem dX6_isTaken_30 : decode cX6_isTaken 30 = .ok (.iload_n 1, 1) := by decide +kernel
theorem dX6_isTaken_31 : decode cX6_isTaken 31 = .ok (.if_icmp .ne 18, 3) := by decide +kernel
theorem dX6_isTaken_34 : decode cX6_isTaken 34 = .ok (.aload_n 0, 1) := by decide +kernel
theorem dX6_isTaken_35 : decode cX6_isTaken 35 = .ok (.getfield 61, 3) := by decide +kernel
theorem dX6_isTaken_38 : decode cX6_isTaken 38 = .ok (.iload 4, 2) := by decide +kernel
theorem dX6_isTaken_40 : decode cX6_isTaken 40 = .ok (.iaload, 1) := by decide +kernel
theorem dX6_isTaken_41 : decode cX6_isTaken 41 = .ok (.iload_n 2, 1) := by decide +kernel
theorem dX6_isTaken_42 : decode cX6_isTaken 42 = .ok (.if_icmp .ne 7, 3) := by decide +kernel
theorem dX6_isTaken_45 : decode cX6_isTaken 45 = .ok (.iconst 1, 1) := by decide +kernel
theorem dX6_isTaken_46 : decode cX6_isTaken 46 = .ok (.goto 4, 3) := by decide +kernel
theorem dX6_isTaken_49 : decode cX6_isTaken 49 = .ok (.iconst 0, 1) := by decide +kernel
theorem dX6_isTaken_50 : decode cX6_isTaken 50 = .ok (.ior, 1) := by decide +kernel
theorem dX6_isTaken_51 : decode cX6_isTaken 51 = .ok (.istore_n 3, 1) := by decide +kernel
theorem dX6_isTaken_52 : decode cX6_isTaken 52 = .ok (.iinc 4 1, 3) := by decide +kernel
theorem dX6_isTaken_55 : decode cX6_isTaken 55 = .ok (.goto (-50), 3) := by decide +kernel
theorem dX6_isTaken_58 : decode cX6_isTaken 58 = .ok (.iload_n 3, 1) := by decide +kernel
theorem dX6_isTaken_59 : decode cX6_isTaken 59 = .ok (.ireturn, 1) := by decide +kernel
theorem dX6_tellsNow_0 : decode cX6_tellsNow 0 = .ok (.iconst 0, 1) := by decide +kernel
theorem dX6_tellsNow_1 : decode cX6_tellsNow 1 = .ok (.istore_n 2, 1) := by decide +kernel
theorem dX6_tellsNow_2 : decode cX6_tellsNow 2 = .ok (.iload_n 2, 1) := by decide +kernel
theorem dX6_tellsNow_3 : decode cX6_tellsNow 3 = .ok (.iconst 4, 1) := by decide +kernel
theorem dX6_tellsNow_4 : decode cX6_tellsNow 4 = .ok (.if_icmp .ge 25, 3) := by decide +kernel
theorem dX6_tellsNow_7 : decode cX6_tellsNow 7 = .ok (.aload_n 0, 1) := by decide +kernel
theorem dX6_tellsNow_8 : decode cX6_tellsNow 8 = .ok (.getfield 39, 3) := by decide +kernel
theorem dX6_tellsNow_11 : decode cX6_tellsNow 11 = .ok (.iload_n 2, 1) := by decide +kernel
theorem dX6_tellsNow_12 : decode cX6_tellsNow 12 = .ok (.aload_n 0, 1) := by decide +kernel
theorem dX6_tellsNow_13 : decode cX6_tellsNow 13 = .ok (.getfield 24, 3) := by decide +kernel
theorem dX6_tellsNow_16 : decode cX6_tellsNow 16 = .ok (.iconst 4, 1) := by decide +kernel
theorem dX6_tellsNow_17 : decode cX6_tellsNow 17 = .ok (.iload_n 1, 1) := by decide +kernel
theorem dX6_tellsNow_18 : decode cX6_tellsNow 18 = .ok (.imul, 1) := by decide +kernel
theorem dX6_tellsNow_19 : decode cX6_tellsNow 19 = .ok (.iload_n 2, 1) := by decide +kernel
theorem dX6_tellsNow_20 : decode cX6_tellsNow 20 = .ok (.iadd, 1) := by decide +kernel
theorem dX6_tellsNow_21 : decode cX6_tellsNow 21 = .ok (.iaload, 1) := by decide +kernel
theorem dX6_tellsNow_22 : decode cX6_tellsNow 22 = .ok (.iastore, 1) := by decide +kernel
theorem dX6_tellsNow_23 : decode cX6_tellsNow 23 = .ok (.iinc 2 1, 3) := by decide +kernel
theorem dX6_tellsNow_26 : decode cX6_tellsNow 26 = .ok (.goto (-24), 3) := by decide +kernel
theorem dX6_tellsNow_29 : decode cX6_tellsNow 29 = .ok (.aload_n 0, 1) := by decide +kernel
theorem dX6_tellsNow_30 : decode cX6_tellsNow 30 = .ok (.invokevirtual 173, 3) := by decide +kernel
theorem dX6_tellsNow_33 : decode cX6_tellsNow 33 = .ok (.return_, 1) := by decide +kernel
theorem dX6_tellsOf_0 : decode cX6_tellsOf 0 = .ok (.iload_n 2, 1) := by decide +kernel
theorem dX6_tellsOf_1 : decode cX6_tellsOf 1 = .ok (.aload_n 0, 1) := by decide +kernel
theorem dX6_tellsOf_2 : decode cX6_tellsOf 2 = .ok (.getfield 109, 3) := by decide +kernel
theorem dX6_tellsOf_5 : decode cX6_tellsOf 5 = .ok (.if_icmp .ne 11, 3) := by decide +kernel
theorem dX6_tellsOf_8 : decode cX6_tellsOf 8 = .ok (.aload_n 0, 1) := by decide +kernel
theorem dX6_tellsOf_9 : decode cX6_tellsOf 9 = .ok (.iload_n 1, 1) := by decide +kernel
theorem dX6_tellsOf_10 : decode cX6_tellsOf 10 = .ok (.invokevirtual 176, 3) := by decide +kernel
theorem dX6_tellsOf_13 : decode cX6_tellsOf 13 = .ok (.goto 41, 3) := by decide +kernel
theorem dX6_tellsOf_16 : decode cX6_tellsOf 16 = .ok (.iconst 0, 1) := by decide +kernel
theorem dX6_tellsOf_17 : decode cX6_tellsOf 17 = .ok (.istore_n 3, 1) := by decide +kernel
theorem dX6_tellsOf_18 : decode cX6_tellsOf 18 = .ok (.iload_n 3, 1) := by decide +kernel
theorem dX6_tellsOf_19 : decode cX6_tellsOf 19 = .ok (.iconst 4, 1) := by decide +kernel
theorem dX6_tellsOf_20 : decode cX6_tellsOf 20 = .ok (.if_icmp .ge 30, 3) := by decide +kernel
theorem dX6_tellsOf_23 : decode cX6_tellsOf 23 = .ok (.aload_n 0, 1) := by decide +kernel
theorem dX6_tellsOf_24 : decode cX6_tellsOf 24 = .ok (.getfield 39, 3) := by decide +kernel
theorem dX6_tellsOf_27 : decode cX6_tellsOf 27 = .ok (.iload_n 3, 1) := by decide +kernel
theorem dX6_tellsOf_28 : decode cX6_tellsOf 28 = .ok (.aload_n 0, 1) := by decide +kernel
theorem dX6_tellsOf_29 : decode cX6_tellsOf 29 = .ok (.getfield 27, 3) := by decide +kernel
theorem dX6_tellsOf_32 : decode cX6_tellsOf 32 = .ok (.bipush 16, 2) := by decide +kernel
theorem dX6_tellsOf_34 : decode cX6_tellsOf 34 = .ok (.iload_n 2, 1) := by decide +kernel
theorem dX6_tellsOf_35 : decode cX6_tellsOf 35 = .ok (.imul, 1) := by decide +kernel
theorem dX6_tellsOf_36 : decode cX6_tellsOf 36 = .ok (.iconst 4, 1) := by decide +kernel
theorem dX6_tellsOf_37 : decode cX6_tellsOf 37 = .ok (.iload_n 1, 1) := by decide +kernel
theorem dX6_tellsOf_38 : decode cX6_tellsOf 38 = .ok (.imul, 1) := by decide +kernel
theorem dX6_tellsOf_39 : decode cX6_tellsOf 39 = .ok (.iadd, 1) := by decide +kernel
theorem dX6_tellsOf_40 : decode cX6_tellsOf 40 = .ok (.iload_n 3, 1) := by decide +kernel
theorem dX6_tellsOf_41 : decode cX6_tellsOf 41 = .ok (.iadd, 1) := by decide +kernel
theorem dX6_tellsOf_42 : decode cX6_tellsOf 42 = .ok (.iaload, 1) := by decide +kernel
theorem dX6_tellsOf_43 : decode cX6_tellsOf 43 = .ok (.iastore, 1) := by decide +kernel
theorem dX6_tellsOf_44 : decode cX6_tellsOf 44 = .ok (.iinc 3 1, 3) := by decide +kernel
theorem dX6_tellsOf_47 : decode cX6_tellsOf 47 = .ok (.goto (-29), 3) := by decide +kernel
theorem dX6_tellsOf_50 : decode cX6_tellsOf 50 = .ok (.aload_n 0, 1) := by decide +kernel
theorem dX6_tellsOf_51 : decode cX6_tellsOf 51 = .ok (.invokevirtual 173, 3) := by decide +kernel
theorem dX6_tellsOf_54 : decode cX6_tellsOf 54 = .ok (.return_, 1) := by decide +kernel
theorem dX6_machines_0 : decode cX6_machines 0 = .ok (.aload_n 0, 1) := by decide +kernel
theorem dX6_machines_1 : decode cX6_machines 1 = .ok (.iconst 0, 1) := by decide +kernel
theorem dX6_machines_2 : decode cX6_machines 2 = .ok (.putfield 106, 3) := by decide +kernel
theorem dX6_machines_5 : decode cX6_machines 5 = .ok (.iload_n 1, 1) := by decide +kernel
theorem dX6_machines_6 : decode cX6_machines 6 = .ok (.iconst 1, 1) := by decide +kernel
theorem dX6_machines_7 : decode cX6_machines 7 = .ok (.iconst 4, 1) := by decide +kernel
theorem dX6_machines_8 : decode cX6_machines 8 = .ok (.invokestatic 115, 3) := by decide +kernel
theorem dX6_machines_11 : decode cX6_machines 11 = .ok (.ifCond .ne 5, 3) := by decide +kernel
theorem dX6_machines_14 : decode cX6_machines 14 = .ok (.iconst (-1), 1) := by decide +kernel
theorem dX6_machines_15 : decode cX6_machines 15 = .ok (.ireturn, 1) := by decide +kernel
theorem dX6_machines_16 : decode cX6_machines 16 = .ok (.aload_n 0, 1) := by decide +kernel
theorem dX6_machines_17 : decode cX6_machines 17 = .ok (.getfield 7, 3) := by decide +kernel
theorem dX6_machines_20 : decode cX6_machines 20 = .ok (.istore_n 2, 1) := by decide +kernel
theorem dX6_machines_21 : decode cX6_machines 21 = .ok (.aload_n 0, 1) := by decide +kernel
theorem dX6_machines_22 : decode cX6_machines 22 = .ok (.iload_n 1, 1) := by decide +kernel
theorem dX6_machines_23 : decode cX6_machines 23 = .ok (.putfield 7, 3) := by decide +kernel
theorem dX6_machines_26 : decode cX6_machines 26 = .ok (.aload_n 0, 1) := by decide +kernel
theorem dX6_machines_27 : decode cX6_machines 27 = .ok (.invokevirtual 103, 3) := by decide +kernel
theorem dX6_machines_30 : decode cX6_machines 30 = .ok (.iload_n 2, 1) := by decide +kernel
theorem dX6_machines_31 : decode cX6_machines 31 = .ok (.ireturn, 1) := by decide +kernel
theorem dX6_rules_0 : decode cX6_rules 0 = .ok (.aload_n 0, 1) := by decide +kernel
theorem dX6_rules_1 : decode cX6_rules 1 = .ok (.iconst 0, 1) := by decide +kernel
theorem dX6_rules_2 : decode cX6_rules 2 = .ok (.putfield 106, 3) := by decide +kernel
theorem dX6_rules_5 : decode cX6_rules 5 = .ok (.iload_n 1, 1) := by decide +kernel
theorem dX6_rules_6 : decode cX6_rules 6 = .ok (.iconst 0, 1) := by decide +kernel
theorem dX6_rules_7 : decode cX6_rules 7 = .ok (.iconst 3, 1) := by decide +kernel
theorem dX6_rules_8 : decode cX6_rules 8 = .ok (.invokestatic 115, 3) := by decide +kernel
theorem dX6_rules_11 : decode cX6_rules 11 = .ok (.ifCond .ne 5, 3) := by decide +kernel
theorem dX6_rules_14 : decode cX6_rules 14 = .ok (.iconst (-1), 1) := by decide +kernel
theorem dX6_rules_15 : decode cX6_rules 15 = .ok (.ireturn, 1) := by decide +kernel
theorem dX6_rules_16 : decode cX6_rules 16 = .ok (.aload_n 0, 1) := by decide +kernel
theorem dX6_rules_17 : decode cX6_rules 17 = .ok (.getfield 134, 3) := by decide +kernel
theorem dX6_rules_20 : decode cX6_rules 20 = .ok (.istore_n 2, 1) := by decide +kernel
theorem dX6_rules_21 : decode cX6_rules 21 = .ok (.aload_n 0, 1) := by decide +kernel
theorem dX6_rules_22 : decode cX6_rules 22 = .ok (.iload_n 1, 1) := by decide +kernel
theorem dX6_rules_23 : decode cX6_rules 23 = .ok (.putfield 134, 3) := by decide +kernel
theorem dX6_rules_26 : decode cX6_rules 26 = .ok (.iload_n 2, 1) := by decide +kernel
theorem dX6_rules_27 : decode cX6_rules 27 = .ok (.ireturn, 1) := by decide +kernel
theorem dX6_makes_0 : decode cX6_makes 0 = .ok (.aload_n 0, 1) := by decide +kernel
theorem dX6_makes_1 : decode cX6_makes 1 = .ok (.getfield 13, 3) := by decide +kernel
theorem dX6_makes_4 : decode cX6_makes 4 = .ok (.iload_n 1, 1) := by decide +kernel
theorem dX6_makes_5 : decode cX6_makes 5 = .ok (.iaload, 1) := by decide +kernel
theorem dX6_makes_6 : decode cX6_makes 6 = .ok (.istore 7, 2) := by decide +kernel
theorem dX6_makes_8 : decode cX6_makes 8 = .ok (.iload_n 1, 1) := by decide +kernel
theorem dX6_makes_9 : decode cX6_makes 9 = .ok (.iload 7, 2) := by decide +kernel
theorem dX6_makes_11 : decode cX6_makes 11 = .ok (.invokestatic 119, 3) := by decide +kernel
theorem dX6_makes_14 : decode cX6_makes 14 = .ok (.istore 8, 2) := by decide +kernel
theorem dX6_makes_16 : decode cX6_makes 16 = .ok (.iconst 0, 1) := by decide +kernel
theorem dX6_makes_17 : decode cX6_makes 17 = .ok (.istore 9, 2) := by decide +kernel
theorem dX6_makes_19 : decode cX6_makes 19 = .ok (.iconst 0, 1) := by decide +kernel
theorem dX6_makes_20 : decode cX6_makes 20 = .ok (.istore 10, 2) := by decide +kernel
theorem dX6_makes_22 : decode cX6_makes 22 = .ok (.iload 10, 2) := by decide +kernel
theorem dX6_makes_24 : decode cX6_makes 24 = .ok (.aload_n 0, 1) := by decide +kernel
theorem dX6_makes_25 : decode cX6_makes 25 = .ok (.getfield 7, 3) := by decide +kernel
theorem dX6_makes_28 : decode cX6_makes 28 = .ok (.if_icmp .ge 80, 3) := by decide +kernel
theorem dX6_makes_31 : decode cX6_makes 31 = .ok (.aload_n 0, 1) := by decide +kernel
theorem dX6_makes_32 : decode cX6_makes 32 = .ok (.getfield 24, 3) := by decide +kernel
theorem dX6_makes_35 : decode cX6_makes 35 = .ok (.iconst 4, 1) := by decide +kernel
theorem dX6_makes_36 : decode cX6_makes 36 = .ok (.iload_n 1, 1) := by decide +kernel
theorem dX6_makes_37 : decode cX6_makes 37 = .ok (.imul, 1) := by decide +kernel
theorem dX6_makes_38 : decode cX6_makes 38 = .ok (.iload 10, 2) := by decide +kernel
theorem dX6_makes_40 : decode cX6_makes 40 = .ok (.iadd, 1) := by decide +kernel
theorem dX6_makes_41 : decode cX6_makes 41 = .ok (.iaload, 1) := by decide +kernel
theorem dX6_makes_42 : decode cX6_makes 42 = .ok (.istore 11, 2) := by decide +kernel
theorem dX6_makes_44 : decode cX6_makes 44 = .ok (.aload_n 0, 1) := by decide +kernel
theorem dX6_makes_45 : decode cX6_makes 45 = .ok (.getfield 17, 3) := by decide +kernel
theorem dX6_makes_48 : decode cX6_makes 48 = .ok (.iload 8, 2) := by decide +kernel
theorem dX6_makes_50 : decode cX6_makes 50 = .ok (.bipush 6, 2) := by decide +kernel
theorem dX6_makes_52 : decode cX6_makes 52 = .ok (.iadd, 1) := by decide +kernel
theorem dX6_makes_53 : decode cX6_makes 53 = .ok (.iload 10, 2) := by decide +kernel
theorem dX6_makes_55 : decode cX6_makes 55 = .ok (.iadd, 1) := by decide +kernel
theorem dX6_makes_56 : decode cX6_makes 56 = .ok (.iload 11, 2) := by decide +kernel
theorem dX6_makes_58 : decode cX6_makes 58 = .ok (.iastore, 1) := by decide +kernel
theorem dX6_makes_59 : decode cX6_makes 59 = .ok (.iload 11, 2) := by decide +kernel
theorem dX6_makes_61 : decode cX6_makes 61 = .ok (.ifCond .ne 7, 3) := by decide +kernel
theorem dX6_makes_64 : decode cX6_makes 64 = .ok (.iconst 0, 1) := by decide +kernel
theorem dX6_makes_65 : decode cX6_makes 65 = .ok (.goto 19, 3) := by decide +kernel
theorem dX6_makes_68 : decode cX6_makes 68 = .ok (.aload_n 0, 1) := by decide +kernel
theorem dX6_makes_69 : decode cX6_makes 69 = .ok (.getfield 17, 3) := by decide +kernel
theorem dX6_makes_72 : decode cX6_makes 72 = .ok (.iload 10, 2) := by decide +kernel
theorem dX6_makes_74 : decode cX6_makes 74 = .ok (.iload 11, 2) := by decide +kernel
theorem dX6_makes_76 : decode cX6_makes 76 = .ok (.iconst 1, 1) := by decide +kernel
theorem dX6_makes_77 : decode cX6_makes 77 = .ok (.isub, 1) := by decide +kernel
theorem dX6_makes_78 : decode cX6_makes 78 = .ok (.invokestatic 119, 3) := by decide +kernel
theorem dX6_makes_81 : decode cX6_makes 81 = .ok (.iconst 4, 1) := by decide +kernel
theorem dX6_makes_82 : decode cX6_makes 82 = .ok (.iadd, 1) := by decide +kernel
theorem dX6_makes_83 : decode cX6_makes 83 = .ok (.iaload, 1) := by decide +kernel
theorem dX6_makes_84 : decode cX6_makes 84 = .ok (.istore 12, 2) := by decide +kernel
theorem dX6_makes_86 : decode cX6_makes 86 = .ok (.iload 12, 2) := by decide +kernel
theorem dX6_makes_88 : decode cX6_makes 88 = .ok (.iload 9, 2) := by decide +kernel
theorem dX6_makes_90 : decode cX6_makes 90 = .ok (.if_icmp .le 8, 3) := by decide +kernel
theorem dX6_makes_93 : decode cX6_makes 93 = .ok (.iload 12, 2) := by decide +kernel
theorem dX6_makes_95 : decode cX6_makes 95 = .ok (.goto 5, 3) := by decide +kernel
theorem dX6_makes_98 : decode cX6_makes 98 = .ok (.iload 9, 2) := by decide +kernel
theorem dX6_makes_100 : decode cX6_makes 100 = .ok (.istore 9, 2) := by decide +kernel
theorem dX6_makes_102 : decode cX6_makes 102 = .ok (.iinc 10 1, 3) := by decide +kernel
theorem dX6_makes_105 : decode cX6_makes 105 = .ok (.goto (-83), 3) := by decide +kernel
theorem dX6_makes_108 : decode cX6_makes 108 = .ok (.aload_n 0, 1) := by decide +kernel
theorem dX6_makes_109 : decode cX6_makes 109 = .ok (.getfield 7, 3) := by decide +kernel
theorem dX6_makes_112 : decode cX6_makes 112 = .ok (.istore 10, 2) := by decide +kernel
theorem dX6_makes_114 : decode cX6_makes 114 = .ok (.iload 10, 2) := by decide +kernel
theorem dX6_makes_116 : decode cX6_makes 116 = .ok (.iconst 4, 1) := by decide +kernel
theorem dX6_makes_117 : decode cX6_makes 117 = .ok (.if_icmp .ge 23, 3) := by decide +kernel
theorem dX6_makes_120 : decode cX6_makes 120 = .ok (.aload_n 0, 1) := by decide +kernel
theorem dX6_makes_121 : decode cX6_makes 121 = .ok (.getfield 17, 3) := by decide +kernel
theorem dX6_makes_124 : decode cX6_makes 124 = .ok (.iload 8, 2) := by decide +kernel
theorem dX6_makes_126 : decode cX6_makes 126 = .ok (.bipush 6, 2) := by decide +kernel
theorem dX6_makes_128 : decode cX6_makes 128 = .ok (.iadd, 1) := by decide +kernel
theorem dX6_makes_129 : decode cX6_makes 129 = .ok (.iload 10, 2) := by decide +kernel
theorem dX6_makes_131 : decode cX6_makes 131 = .ok (.iadd, 1) := by decide +kernel
theorem dX6_makes_132 : decode cX6_makes 132 = .ok (.iconst 0, 1) := by decide +kernel
theorem dX6_makes_133 : decode cX6_makes 133 = .ok (.iastore, 1) := by decide +kernel
theorem dX6_makes_134 : decode cX6_makes 134 = .ok (.iinc 10 1, 3) := by decide +kernel
theorem dX6_makes_137 : decode cX6_makes 137 = .ok (.goto (-23), 3) := by decide +kernel
theorem dX6_makes_140 : decode cX6_makes 140 = .ok (.aload_n 0, 1) := by decide +kernel
theorem dX6_makes_141 : decode cX6_makes 141 = .ok (.getfield 17, 3) := by decide +kernel
theorem dX6_makes_144 : decode cX6_makes 144 = .ok (.iload 8, 2) := by decide +kernel
theorem dX6_makes_146 : decode cX6_makes 146 = .ok (.iload_n 2, 1) := by decide +kernel
theorem dX6_makes_147 : decode cX6_makes 147 = .ok (.iastore, 1) := by decide +kernel
theorem dX6_makes_148 : decode cX6_makes 148 = .ok (.aload_n 0, 1) := by decide +kernel
theorem dX6_makes_149 : decode cX6_makes 149 = .ok (.getfield 17, 3) := by decide +kernel
theorem dX6_makes_152 : decode cX6_makes 152 = .ok (.iload 8, 2) := by decide +kernel
theorem dX6_makes_154 : decode cX6_makes 154 = .ok (.iconst 1, 1) := by decide +kernel
theorem dX6_makes_155 : decode cX6_makes 155 = .ok (.iadd, 1) := by decide +kernel
theorem dX6_makes_156 : decode cX6_makes 156 = .ok (.iload_n 3, 1) := by decide +kernel
theorem dX6_makes_157 : decode cX6_makes 157 = .ok (.iastore, 1) := by decide +kernel
theorem dX6_makes_158 : decode cX6_makes 158 = .ok (.aload_n 0, 1) := by decide +kernel
theorem dX6_makes_159 : decode cX6_makes 159 = .ok (.getfield 17, 3) := by decide +kernel
theorem dX6_makes_162 : decode cX6_makes 162 = .ok (.iload 8, 2) := by decide +kernel
theorem dX6_makes_164 : decode cX6_makes 164 = .ok (.iconst 2, 1) := by decide +kernel
theorem dX6_makes_165 : decode cX6_makes 165 = .ok (.iadd, 1) := by decide +kernel
theorem dX6_makes_166 : decode cX6_makes 166 = .ok (.iload 4, 2) := by decide +kernel
theorem dX6_makes_168 : decode cX6_makes 168 = .ok (.iastore, 1) := by decide +kernel
theorem dX6_makes_169 : decode cX6_makes 169 = .ok (.aload_n 0, 1) := by decide +kernel
theorem dX6_makes_170 : decode cX6_makes 170 = .ok (.getfield 17, 3) := by decide +kernel
theorem dX6_makes_173 : decode cX6_makes 173 = .ok (.iload 8, 2) := by decide +kernel
theorem dX6_makes_175 : decode cX6_makes 175 = .ok (.iconst 3, 1) := by decide +kernel
theorem dX6_makes_176 : decode cX6_makes 176 = .ok (.iadd, 1) := by decide +kernel
theorem dX6_makes_177 : decode cX6_makes 177 = .ok (.iload 5, 2) := by decide +kernel
theorem dX6_makes_179 : decode cX6_makes 179 = .ok (.iastore, 1) := by decide +kernel
theorem dX6_makes_180 : decode cX6_makes 180 = .ok (.aload_n 0, 1) := by decide +kernel
theorem dX6_makes_181 : decode cX6_makes 181 = .ok (.getfield 17, 3) := by decide +kernel
theorem dX6_makes_184 : decode cX6_makes 184 = .ok (.iload 8, 2) := by decide +kernel
theorem dX6_makes_186 : decode cX6_makes 186 = .ok (.iconst 4, 1) := by decide +kernel
theorem dX6_makes_187 : decode cX6_makes 187 = .ok (.iadd, 1) := by decide +kernel
theorem dX6_makes_188 : decode cX6_makes 188 = .ok (.iload 9, 2) := by decide +kernel
theorem dX6_makes_190 : decode cX6_makes 190 = .ok (.iconst 1, 1) := by decide +kernel
theorem dX6_makes_191 : decode cX6_makes 191 = .ok (.iadd, 1) := by decide +kernel
theorem dX6_makes_192 : decode cX6_makes 192 = .ok (.iastore, 1) := by decide +kernel
theorem dX6_makes_193 : decode cX6_makes 193 = .ok (.aload_n 0, 1) := by decide +kernel
theorem dX6_makes_194 : decode cX6_makes 194 = .ok (.getfield 17, 3) := by decide +kernel
theorem dX6_makes_197 : decode cX6_makes 197 = .ok (.iload 8, 2) := by decide +kernel
theorem dX6_makes_199 : decode cX6_makes 199 = .ok (.iconst 5, 1) := by decide +kernel
theorem dX6_makes_200 : decode cX6_makes 200 = .ok (.iadd, 1) := by decide +kernel
theorem dX6_makes_201 : decode cX6_makes 201 = .ok (.aload_n 0, 1) := by decide +kernel
theorem dX6_makes_202 : decode cX6_makes 202 = .ok (.getfield 109, 3) := by decide +kernel
theorem dX6_makes_205 : decode cX6_makes 205 = .ok (.iastore, 1) := by decide +kernel
theorem dX6_makes_206 : decode cX6_makes 206 = .ok (.aload_n 0, 1) := by decide +kernel
theorem dX6_makes_207 : decode cX6_makes 207 = .ok (.getfield 17, 3) := by decide +kernel
theorem dX6_makes_210 : decode cX6_makes 210 = .ok (.iload 8, 2) := by decide +kernel
theorem dX6_makes_212 : decode cX6_makes 212 = .ok (.bipush 10, 2) := by decide +kernel
theorem dX6_makes_214 : decode cX6_makes 214 = .ok (.iadd, 1) := by decide +kernel
theorem dX6_makes_215 : decode cX6_makes 215 = .ok (.iload 6, 2) := by decide +kernel
theorem dX6_makes_217 : decode cX6_makes 217 = .ok (.iastore, 1) := by decide +kernel
theorem dX6_makes_218 : decode cX6_makes 218 = .ok (.aload_n 0, 1) := by decide +kernel
theorem dX6_makes_219 : decode cX6_makes 219 = .ok (.getfield 13, 3) := by decide +kernel
theorem dX6_makes_222 : decode cX6_makes 222 = .ok (.iload_n 1, 1) := by decide +kernel
theorem dX6_makes_223 : decode cX6_makes 223 = .ok (.dup2, 1) := by decide +kernel
theorem dX6_makes_224 : decode cX6_makes 224 = .ok (.iaload, 1) := by decide +kernel
theorem dX6_makes_225 : decode cX6_makes 225 = .ok (.iconst 1, 1) := by decide +kernel
theorem dX6_makes_226 : decode cX6_makes 226 = .ok (.iadd, 1) := by decide +kernel
theorem dX6_makes_227 : decode cX6_makes 227 = .ok (.iastore, 1) := by decide +kernel
theorem dX6_makes_228 : decode cX6_makes 228 = .ok (.aload_n 0, 1) := by decide +kernel
theorem dX6_makes_229 : decode cX6_makes 229 = .ok (.getfield 24, 3) := by decide +kernel
theorem dX6_makes_232 : decode cX6_makes 232 = .ok (.iconst 4, 1) := by decide +kernel
theorem dX6_makes_233 : decode cX6_makes 233 = .ok (.iload_n 1, 1) := by decide +kernel
theorem dX6_makes_234 : decode cX6_makes 234 = .ok (.imul, 1) := by decide +kernel
theorem dX6_makes_235 : decode cX6_makes 235 = .ok (.iload_n 1, 1) := by decide +kernel
theorem dX6_makes_236 : decode cX6_makes 236 = .ok (.iadd, 1) := by decide +kernel
theorem dX6_makes_237 : decode cX6_makes 237 = .ok (.aload_n 0, 1) := by decide +kernel
theorem dX6_makes_238 : decode cX6_makes 238 = .ok (.getfield 13, 3) := by decide +kernel
theorem dX6_makes_241 : decode cX6_makes 241 = .ok (.iload_n 1, 1) := by decide +kernel
theorem dX6_makes_242 : decode cX6_makes 242 = .ok (.iaload, 1) := by decide +kernel
theorem dX6_makes_243 : decode cX6_makes 243 = .ok (.iastore, 1) := by decide +kernel
theorem dX6_makes_244 : decode cX6_makes 244 = .ok (.iload 7, 2) := by decide +kernel
theorem dX6_makes_246 : decode cX6_makes 246 = .ok (.ireturn, 1) := by decide +kernel
theorem dX6_make_0 : decode cX6_make 0 = .ok (.aload_n 0, 1) := by decide +kernel
theorem dX6_make_1 : decode cX6_make 1 = .ok (.iconst 0, 1) := by decide +kernel
theorem dX6_make_2 : decode cX6_make 2 = .ok (.putfield 106, 3) := by decide +kernel
theorem dX6_make_5 : decode cX6_make 5 = .ok (.aload_n 0, 1) := by decide +kernel
theorem dX6_make_6 : decode cX6_make 6 = .ok (.iload_n 1, 1) := by decide +kernel
theorem dX6_make_7 : decode cX6_make 7 = .ok (.invokevirtual 179, 3) := by decide +kernel
theorem dX6_make_10 : decode cX6_make 10 = .ok (.ifCond .eq 30, 3) := by decide +kernel
theorem dX6_make_13 : decode cX6_make 13 = .ok (.iload_n 2, 1) := by decide +kernel
theorem dX6_make_14 : decode cX6_make 14 = .ok (.iconst 1, 1) := by decide +kernel
theorem dX6_make_15 : decode cX6_make 15 = .ok (.iconst 2, 1) := by decide +kernel
theorem dX6_make_16 : decode cX6_make 16 = .ok (.invokestatic 115, 3) := by decide +kernel
theorem dX6_make_19 : decode cX6_make 19 = .ok (.ifCond .eq 21, 3) := by decide +kernel
theorem dX6_make_22 : decode cX6_make 22 = .ok (.iload_n 3, 1) := by decide +kernel
theorem dX6_make_23 : decode cX6_make 23 = .ok (.invokestatic 182, 3) := by decide +kernel
theorem dX6_make_26 : decode cX6_make 26 = .ok (.ifCond .eq 14, 3) := by decide +kernel
theorem dX6_make_29 : decode cX6_make 29 = .ok (.iload 4, 2) := by decide +kernel
theorem dX6_make_31 : decode cX6_make 31 = .ok (.iconst 0, 1) := by decide +kernel
theorem dX6_make_32 : decode cX6_make 32 = .ok (.bipush 9, 2) := by decide +kernel
theorem dX6_make_34 : decode cX6_make 34 = .ok (.invokestatic 115, 3) := by decide +kernel
theorem dX6_make_37 : decode cX6_make 37 = .ok (.ifCond .ne 5, 3) := by decide +kernel
theorem dX6_make_40 : decode cX6_make 40 = .ok (.iconst (-1), 1) := by decide +kernel
theorem dX6_make_41 : decode cX6_make 41 = .ok (.ireturn, 1) := by decide +kernel
theorem dX6_make_42 : decode cX6_make 42 = .ok (.aload_n 0, 1) := by decide +kernel
theorem dX6_make_43 : decode cX6_make 43 = .ok (.iload_n 1, 1) := by decide +kernel
theorem dX6_make_44 : decode cX6_make 44 = .ok (.invokevirtual 176, 3) := by decide +kernel
theorem dX6_make_47 : decode cX6_make 47 = .ok (.aload_n 0, 1) := by decide +kernel
theorem dX6_make_48 : decode cX6_make 48 = .ok (.iload_n 3, 1) := by decide +kernel
theorem dX6_make_49 : decode cX6_make 49 = .ok (.invokevirtual 137, 3) := by decide +kernel
theorem dX6_make_52 : decode cX6_make 52 = .ok (.ifCond .ne 6, 3) := by decide +kernel
theorem dX6_make_55 : decode cX6_make 55 = .ok (.bipush (-2), 2) := by decide +kernel
theorem dX6_make_57 : decode cX6_make 57 = .ok (.ireturn, 1) := by decide +kernel
theorem dX6_make_58 : decode cX6_make 58 = .ok (.iconst 1, 1) := by decide +kernel
theorem dX6_make_59 : decode cX6_make 59 = .ok (.istore 5, 2) := by decide +kernel
theorem dX6_make_61 : decode cX6_make 61 = .ok (.aload_n 0, 1) := by decide +kernel
theorem dX6_make_62 : decode cX6_make 62 = .ok (.iload_n 1, 1) := by decide +kernel
theorem dX6_make_63 : decode cX6_make 63 = .ok (.iload 5, 2) := by decide +kernel
theorem dX6_make_65 : decode cX6_make 65 = .ok (.invokevirtual 185, 3) := by decide +kernel
theorem dX6_make_68 : decode cX6_make 68 = .ok (.ifCond .eq 9, 3) := by decide +kernel
theorem dX6_make_71 : decode cX6_make 71 = .ok (.iinc 5 1, 3) := by decide +kernel
theorem dX6_make_74 : decode cX6_make 74 = .ok (.goto (-13), 3) := by decide +kernel
theorem dX6_make_77 : decode cX6_make 77 = .ok (.iload 5, 2) := by decide +kernel
theorem dX6_make_79 : decode cX6_make 79 = .ok (.bipush 11, 2) := by decide +kernel
theorem dX6_make_81 : decode cX6_make 81 = .ok (.if_icmp .gt 14, 3) := by decide +kernel
theorem dX6_make_84 : decode cX6_make 84 = .ok (.aload_n 0, 1) := by decide +kernel
theorem dX6_make_85 : decode cX6_make 85 = .ok (.getfield 13, 3) := by decide +kernel
theorem dX6_make_88 : decode cX6_make 88 = .ok (.iload_n 1, 1) := by decide +kernel
theorem dX6_make_89 : decode cX6_make 89 = .ok (.iaload, 1) := by decide +kernel
theorem dX6_make_90 : decode cX6_make 90 = .ok (.bipush 20, 2) := by decide +kernel
theorem dX6_make_92 : decode cX6_make 92 = .ok (.if_icmp .ne 6, 3) := by decide +kernel
theorem dX6_make_95 : decode cX6_make 95 = .ok (.bipush (-3), 2) := by decide +kernel
theorem dX6_make_97 : decode cX6_make 97 = .ok (.ireturn, 1) := by decide +kernel
theorem dX6_make_98 : decode cX6_make 98 = .ok (.aload_n 0, 1) := by decide +kernel
theorem dX6_make_99 : decode cX6_make 99 = .ok (.iload_n 1, 1) := by decide +kernel
theorem dX6_make_100 : decode cX6_make 100 = .ok (.iconst 0, 1) := by decide +kernel
theorem dX6_make_101 : decode cX6_make 101 = .ok (.iload 5, 2) := by decide +kernel
theorem dX6_make_103 : decode cX6_make 103 = .ok (.iload_n 3, 1) := by decide +kernel
theorem dX6_make_104 : decode cX6_make 104 = .ok (.iload 4, 2) := by decide +kernel
theorem dX6_make_106 : decode cX6_make 106 = .ok (.iload_n 2, 1) := by decide +kernel
theorem dX6_make_107 : decode cX6_make 107 = .ok (.invokevirtual 188, 3) := by decide +kernel
theorem dX6_make_110 : decode cX6_make 110 = .ok (.pop, 1) := by decide +kernel
theorem dX6_make_111 : decode cX6_make 111 = .ok (.iload 5, 2) := by decide +kernel
theorem dX6_make_113 : decode cX6_make 113 = .ok (.ireturn, 1) := by decide +kernel
theorem dX6_isNew_0 : decode cX6_isNew 0 = .ok (.iconst 0, 1) := by decide +kernel
theorem dX6_isNew_1 : decode cX6_isNew 1 = .ok (.istore_n 3, 1) := by decide +kernel
theorem dX6_isNew_2 : decode cX6_isNew 2 = .ok (.iconst 0, 1) := by decide +kernel
theorem dX6_isNew_3 : decode cX6_isNew 3 = .ok (.istore 4, 2) := by decide +kernel
theorem dX6_isNew_5 : decode cX6_isNew 5 = .ok (.iload 4, 2) := by decide +kernel
theorem dX6_isNew_7 : decode cX6_isNew 7 = .ok (.aload_n 0, 1) := by decide +kernel
theorem dX6_isNew_8 : decode cX6_isNew 8 = .ok (.getfield 7, 3) := by decide +kernel
theorem dX6_isNew_11 : decode cX6_isNew 11 = .ok (.if_icmp .ge 74, 3) := by decide +kernel
theorem dX6_isNew_14 : decode cX6_isNew 14 = .ok (.iconst 0, 1) := by decide +kernel
theorem dX6_isNew_15 : decode cX6_isNew 15 = .ok (.istore 5, 2) := by decide +kernel
theorem dX6_isNew_17 : decode cX6_isNew 17 = .ok (.iload 5, 2) := by decide +kernel
theorem dX6_isNew_19 : decode cX6_isNew 19 = .ok (.aload_n 0, 1) := by decide +kernel
theorem dX6_isNew_20 : decode cX6_isNew 20 = .ok (.getfield 24, 3) := by decide +kernel
theorem dX6_isNew_23 : decode cX6_isNew 23 = .ok (.iconst 4, 1) := by decide +kernel
theorem dX6_isNew_24 : decode cX6_isNew 24 = .ok (.iload_n 1, 1) := by decide +kernel
theorem dX6_isNew_25 : decode cX6_isNew 25 = .ok (.imul, 1) := by decide +kernel
theorem dX6_isNew_26 : decode cX6_isNew 26 = .ok (.iload 4, 2) := by decide +kernel
theorem dX6_isNew_28 : decode cX6_isNew 28 = .ok (.iadd, 1) := by decide +kernel
theorem dX6_isNew_29 : decode cX6_isNew 29 = .ok (.iaload, 1) := by decide +kernel
theorem dX6_isNew_30 : decode cX6_isNew 30 = .ok (.if_icmp .ge 49, 3) := by decide +kernel
theorem dX6_isNew_33 : decode cX6_isNew 33 = .ok (.iload 4, 2) := by decide +kernel
theorem dX6_isNew_35 : decode cX6_isNew 35 = .ok (.iload 5, 2) := by decide +kernel
theorem dX6_isNew_37 : decode cX6_isNew 37 = .ok (.invokestatic 119, 3) := by decide +kernel
theorem dX6_isNew_40 : decode cX6_isNew 40 = .ok (.istore 6, 2) := by decide +kernel
theorem dX6_isNew_42 : decode cX6_isNew 42 = .ok (.iload_n 3, 1) := by decide +kernel
theorem dX6_isNew_43 : decode cX6_isNew 43 = .ok (.aload_n 0, 1) := by decide +kernel
theorem dX6_isNew_44 : decode cX6_isNew 44 = .ok (.getfield 17, 3) := by decide +kernel
theorem dX6_isNew_47 : decode cX6_isNew 47 = .ok (.iload 6, 2) := by decide +kernel
theorem dX6_isNew_49 : decode cX6_isNew 49 = .ok (.iaload, 1) := by decide +kernel
theorem dX6_isNew_50 : decode cX6_isNew 50 = .ok (.ifCond .ne 20, 3) := by decide +kernel
theorem dX6_isNew_53 : decode cX6_isNew 53 = .ok (.aload_n 0, 1) := by decide +kernel
theorem dX6_isNew_54 : decode cX6_isNew 54 = .ok (.getfield 17, 3) := by decide +kernel
theorem dX6_isNew_57 : decode cX6_isNew 57 = .ok (.iload 6, 2) := by decide +kernel
theorem dX6_isNew_59 : decode cX6_isNew 59 = .ok (.iconst 1, 1) := by decide +kernel
theorem dX6_isNew_60 : decode cX6_isNew 60 = .ok (.iadd, 1) := by decide +kernel
theorem dX6_isNew_61 : decode cX6_isNew 61 = .ok (.iaload, 1) := by decide +kernel
theorem dX6_isNew_62 : decode cX6_isNew 62 = .ok (.iload_n 2, 1) := by decide +kernel
theorem dX6_isNew_63 : decode cX6_isNew 63 = .ok (.if_icmp .ne 7, 3) := by decide +kernel
theorem dX6_isNew_66 : decode cX6_isNew 66 = .ok (.iconst 1, 1) := by decide +kernel
theorem dX6_isNew_67 : decode cX6_isNew 67 = .ok (.goto 4, 3) := by decide +kernel
theorem dX6_isNew_70 : decode cX6_isNew 70 = .ok (.iconst 0, 1) := by decide +kernel
theorem dX6_isNew_71 : decode cX6_isNew 71 = .ok (.ior, 1) := by decide +kernel
theorem dX6_isNew_72 : decode cX6_isNew 72 = .ok (.istore_n 3, 1) := by decide +kernel
theorem dX6_isNew_73 : decode cX6_isNew 73 = .ok (.iinc 5 1, 3) := by decide +kernel
theorem dX6_isNew_76 : decode cX6_isNew 76 = .ok (.goto (-59), 3) := by decide +kernel
theorem dX6_isNew_79 : decode cX6_isNew 79 = .ok (.iinc 4 1, 3) := by decide +kernel
theorem dX6_isNew_82 : decode cX6_isNew 82 = .ok (.goto (-77), 3) := by decide +kernel
theorem dX6_isNew_85 : decode cX6_isNew 85 = .ok (.iload_n 3, 1) := by decide +kernel
theorem dX6_isNew_86 : decode cX6_isNew 86 = .ok (.ireturn, 1) := by decide +kernel
theorem dX6_move_0 : decode cX6_move 0 = .ok (.aload_n 0, 1) := by decide +kernel
theorem dX6_move_1 : decode cX6_move 1 = .ok (.iconst 0, 1) := by decide +kernel
theorem dX6_move_2 : decode cX6_move 2 = .ok (.putfield 106, 3) := by decide +kernel
theorem dX6_move_5 : decode cX6_move 5 = .ok (.aload_n 0, 1) := by decide +kernel
theorem dX6_move_6 : decode cX6_move 6 = .ok (.iload_n 1, 1) := by decide +kernel
theorem dX6_move_7 : decode cX6_move 7 = .ok (.invokevirtual 179, 3) := by decide +kernel
theorem dX6_move_10 : decode cX6_move 10 = .ok (.ifCond .eq 28, 3) := by decide +kernel
theorem dX6_move_13 : decode cX6_move 13 = .ok (.iload_n 2, 1) := by decide +kernel
theorem dX6_move_14 : decode cX6_move 14 = .ok (.invokestatic 182, 3) := by decide +kernel
theorem dX6_move_17 : decode cX6_move 17 = .ok (.ifCond .eq 21, 3) := by decide +kernel
theorem dX6_move_20 : decode cX6_move 20 = .ok (.iload_n 3, 1) := by decide +kernel
theorem dX6_move_21 : decode cX6_move 21 = .ok (.invokestatic 182, 3) := by decide +kernel
theorem dX6_move_24 : decode cX6_move 24 = .ok (.ifCond .eq 14, 3) := by decide +kernel
theorem dX6_move_27 : decode cX6_move 27 = .ok (.iload 4, 2) := by decide +kernel
theorem dX6_move_29 : decode cX6_move 29 = .ok (.iconst 0, 1) := by decide +kernel
theorem dX6_move_30 : decode cX6_move 30 = .ok (.bipush 9, 2) := by decide +kernel
theorem dX6_move_32 : decode cX6_move 32 = .ok (.invokestatic 115, 3) := by decide +kernel
theorem dX6_move_35 : decode cX6_move 35 = .ok (.ifCond .ne 5, 3) := by decide +kernel
theorem dX6_move_38 : decode cX6_move 38 = .ok (.iconst (-1), 1) := by decide +kernel
theorem dX6_move_39 : decode cX6_move 39 = .ok (.ireturn, 1) := by decide +kernel
theorem dX6_move_40 : decode cX6_move 40 = .ok (.aload_n 0, 1) := by decide +kernel
theorem dX6_move_41 : decode cX6_move 41 = .ok (.iload_n 1, 1) := by decide +kernel
theorem dX6_move_42 : decode cX6_move 42 = .ok (.invokevirtual 176, 3) := by decide +kernel
theorem dX6_move_45 : decode cX6_move 45 = .ok (.iload_n 2, 1) := by decide +kernel
theorem dX6_move_46 : decode cX6_move 46 = .ok (.ifCond .eq 29, 3) := by decide +kernel
theorem dX6_move_49 : decode cX6_move 49 = .ok (.aload_n 0, 1) := by decide +kernel
theorem dX6_move_50 : decode cX6_move 50 = .ok (.getfield 46, 3) := by decide +kernel
theorem dX6_move_53 : decode cX6_move 53 = .ok (.iload_n 2, 1) := by decide +kernel
theorem dX6_move_54 : decode cX6_move 54 = .ok (.baload, 1) := by decide +kernel
theorem dX6_move_55 : decode cX6_move 55 = .ok (.ifCond .eq 20, 3) := by decide +kernel
theorem dX6_move_58 : decode cX6_move 58 = .ok (.aload_n 0, 1) := by decide +kernel
theorem dX6_move_59 : decode cX6_move 59 = .ok (.iload_n 3, 1) := by decide +kernel
theorem dX6_move_60 : decode cX6_move 60 = .ok (.invokevirtual 137, 3) := by decide +kernel
theorem dX6_move_63 : decode cX6_move 63 = .ok (.ifCond .eq 12, 3) := by decide +kernel
theorem dX6_move_66 : decode cX6_move 66 = .ok (.aload_n 0, 1) := by decide +kernel
theorem dX6_move_67 : decode cX6_move 67 = .ok (.iload_n 3, 1) := by decide +kernel
theorem dX6_move_68 : decode cX6_move 68 = .ok (.iload_n 2, 1) := by decide +kernel
theorem dX6_move_69 : decode cX6_move 69 = .ok (.invokevirtual 130, 3) := by decide +kernel
theorem dX6_move_72 : decode cX6_move 72 = .ok (.ifCond .eq 6, 3) := by decide +kernel
theorem dX6_move_75 : decode cX6_move 75 = .ok (.bipush (-2), 2) := by decide +kernel
theorem dX6_move_77 : decode cX6_move 77 = .ok (.ireturn, 1) := by decide +kernel
theorem dX6_move_78 : decode cX6_move 78 = .ok (.aload_n 0, 1) := by decide +kernel
theorem dX6_move_79 : decode cX6_move 79 = .ok (.getfield 13, 3) := by decide +kernel
end
section
theorem dX6_move_82 : decode cX6_move 82 = .ok (.iload_n 1, 1) := by decide +kernel
theorem dX6_move_83 : decode cX6_move 83 = .ok (.iaload, 1) := by decide +kernel
theorem dX6_move_84 : decode cX6_move 84 = .ok (.bipush 20, 2) := by decide +kernel
theorem dX6_move_86 : decode cX6_move 86 = .ok (.if_icmp .ne 8, 3) := by decide +kernel
theorem dX6_move_89 : decode cX6_move 89 = .ok (.bipush (-3), 2) := by decide +kernel
theorem dX6_move_91 : decode cX6_move 91 = .ok (.goto 14, 3) := by decide +kernel
theorem dX6_move_94 : decode cX6_move 94 = .ok (.aload_n 0, 1) := by decide +kernel
theorem dX6_move_95 : decode cX6_move 95 = .ok (.iload_n 1, 1) := by decide +kernel
theorem dX6_move_96 : decode cX6_move 96 = .ok (.iconst 1, 1) := by decide +kernel
theorem dX6_move_97 : decode cX6_move 97 = .ok (.iload_n 2, 1) := by decide +kernel
theorem dX6_move_98 : decode cX6_move 98 = .ok (.iload_n 3, 1) := by decide +kernel
theorem dX6_move_99 : decode cX6_move 99 = .ok (.iload 4, 2) := by decide +kernel
theorem dX6_move_101 : decode cX6_move 101 = .ok (.iconst 0, 1) := by decide +kernel
theorem dX6_move_102 : decode cX6_move 102 = .ok (.invokevirtual 188, 3) := by decide +kernel
theorem dX6_move_105 : decode cX6_move 105 = .ok (.ireturn, 1) := by decide +kernel
theorem dX6_gone_0 : decode cX6_gone 0 = .ok (.aload_n 0, 1) := by decide +kernel
theorem dX6_gone_1 : decode cX6_gone 1 = .ok (.iconst 0, 1) := by decide +kernel
theorem dX6_gone_2 : decode cX6_gone 2 = .ok (.putfield 106, 3) := by decide +kernel
theorem dX6_gone_5 : decode cX6_gone 5 = .ok (.aload_n 0, 1) := by decide +kernel
theorem dX6_gone_6 : decode cX6_gone 6 = .ok (.iload_n 1, 1) := by decide +kernel
theorem dX6_gone_7 : decode cX6_gone 7 = .ok (.invokevirtual 179, 3) := by decide +kernel
theorem dX6_gone_10 : decode cX6_gone 10 = .ok (.ifCond .eq 10, 3) := by decide +kernel
theorem dX6_gone_13 : decode cX6_gone 13 = .ok (.iload_n 2, 1) := by decide +kernel
theorem dX6_gone_14 : decode cX6_gone 14 = .ok (.invokestatic 182, 3) := by decide +kernel
theorem dX6_gone_17 : decode cX6_gone 17 = .ok (.ifCond .ne 5, 3) := by decide +kernel
theorem dX6_gone_20 : decode cX6_gone 20 = .ok (.iconst (-1), 1) := by decide +kernel
theorem dX6_gone_21 : decode cX6_gone 21 = .ok (.ireturn, 1) := by decide +kernel
theorem dX6_gone_22 : decode cX6_gone 22 = .ok (.aload_n 0, 1) := by decide +kernel
theorem dX6_gone_23 : decode cX6_gone 23 = .ok (.iload_n 1, 1) := by decide +kernel
theorem dX6_gone_24 : decode cX6_gone 24 = .ok (.invokevirtual 176, 3) := by decide +kernel
theorem dX6_gone_27 : decode cX6_gone 27 = .ok (.iload_n 2, 1) := by decide +kernel
theorem dX6_gone_28 : decode cX6_gone 28 = .ok (.ifCond .eq 12, 3) := by decide +kernel
theorem dX6_gone_31 : decode cX6_gone 31 = .ok (.aload_n 0, 1) := by decide +kernel
theorem dX6_gone_32 : decode cX6_gone 32 = .ok (.getfield 46, 3) := by decide +kernel
theorem dX6_gone_35 : decode cX6_gone 35 = .ok (.iload_n 2, 1) := by decide +kernel
theorem dX6_gone_36 : decode cX6_gone 36 = .ok (.baload, 1) := by decide +kernel
theorem dX6_gone_37 : decode cX6_gone 37 = .ok (.ifCond .ne 6, 3) := by decide +kernel
theorem dX6_gone_40 : decode cX6_gone 40 = .ok (.bipush (-2), 2) := by decide +kernel
theorem dX6_gone_42 : decode cX6_gone 42 = .ok (.ireturn, 1) := by decide +kernel
theorem dX6_gone_43 : decode cX6_gone 43 = .ok (.aload_n 0, 1) := by decide +kernel
theorem dX6_gone_44 : decode cX6_gone 44 = .ok (.getfield 13, 3) := by decide +kernel
theorem dX6_gone_47 : decode cX6_gone 47 = .ok (.iload_n 1, 1) := by decide +kernel
theorem dX6_gone_48 : decode cX6_gone 48 = .ok (.iaload, 1) := by decide +kernel
theorem dX6_gone_49 : decode cX6_gone 49 = .ok (.bipush 20, 2) := by decide +kernel
theorem dX6_gone_51 : decode cX6_gone 51 = .ok (.if_icmp .ne 8, 3) := by decide +kernel
theorem dX6_gone_54 : decode cX6_gone 54 = .ok (.bipush (-3), 2) := by decide +kernel
theorem dX6_gone_56 : decode cX6_gone 56 = .ok (.goto 13, 3) := by decide +kernel
theorem dX6_gone_59 : decode cX6_gone 59 = .ok (.aload_n 0, 1) := by decide +kernel
theorem dX6_gone_60 : decode cX6_gone 60 = .ok (.iload_n 1, 1) := by decide +kernel
theorem dX6_gone_61 : decode cX6_gone 61 = .ok (.iconst 2, 1) := by decide +kernel
theorem dX6_gone_62 : decode cX6_gone 62 = .ok (.iload_n 2, 1) := by decide +kernel
theorem dX6_gone_63 : decode cX6_gone 63 = .ok (.iconst 0, 1) := by decide +kernel
theorem dX6_gone_64 : decode cX6_gone 64 = .ok (.iconst 0, 1) := by decide +kernel
theorem dX6_gone_65 : decode cX6_gone 65 = .ok (.iconst 0, 1) := by decide +kernel
theorem dX6_gone_66 : decode cX6_gone 66 = .ok (.invokevirtual 188, 3) := by decide +kernel
theorem dX6_gone_69 : decode cX6_gone 69 = .ok (.ireturn, 1) := by decide +kernel
theorem dX6_byteOf_0 : decode cX6_byteOf 0 = .ok (.lload_n 0, 1) := by decide +kernel
theorem dX6_byteOf_1 : decode cX6_byteOf 1 = .ok (.bipush 8, 2) := by decide +kernel
theorem dX6_byteOf_3 : decode cX6_byteOf 3 = .ok (.iload_n 2, 1) := by decide +kernel
theorem dX6_byteOf_4 : decode cX6_byteOf 4 = .ok (.iconst 1, 1) := by decide +kernel
theorem dX6_byteOf_5 : decode cX6_byteOf 5 = .ok (.isub, 1) := by decide +kernel
theorem dX6_byteOf_6 : decode cX6_byteOf 6 = .ok (.iload_n 3, 1) := by decide +kernel
theorem dX6_byteOf_7 : decode cX6_byteOf 7 = .ok (.isub, 1) := by decide +kernel
theorem dX6_byteOf_8 : decode cX6_byteOf 8 = .ok (.imul, 1) := by decide +kernel
theorem dX6_byteOf_9 : decode cX6_byteOf 9 = .ok (.lshr, 1) := by decide +kernel
theorem dX6_byteOf_10 : decode cX6_byteOf 10 = .ok (.ldc2_w 192, 3) := by decide +kernel
theorem dX6_byteOf_13 : decode cX6_byteOf 13 = .ok (.land, 1) := by decide +kernel
theorem dX6_byteOf_14 : decode cX6_byteOf 14 = .ok (.l2i, 1) := by decide +kernel
theorem dX6_byteOf_15 : decode cX6_byteOf 15 = .ok (.ireturn, 1) := by decide +kernel
theorem dX6_cuts_0 : decode cX6_cuts 0 = .ok (.lconst 0, 1) := by decide +kernel
theorem dX6_cuts_1 : decode cX6_cuts 1 = .ok (.lstore 4, 2) := by decide +kernel
theorem dX6_cuts_3 : decode cX6_cuts 3 = .ok (.iconst 0, 1) := by decide +kernel
theorem dX6_cuts_4 : decode cX6_cuts 4 = .ok (.istore 6, 2) := by decide +kernel
theorem dX6_cuts_6 : decode cX6_cuts 6 = .ok (.iconst 0, 1) := by decide +kernel
theorem dX6_cuts_7 : decode cX6_cuts 7 = .ok (.istore 7, 2) := by decide +kernel
theorem dX6_cuts_9 : decode cX6_cuts 9 = .ok (.iload 7, 2) := by decide +kernel
theorem dX6_cuts_11 : decode cX6_cuts 11 = .ok (.iload_n 3, 1) := by decide +kernel
theorem dX6_cuts_12 : decode cX6_cuts 12 = .ok (.if_icmp .ge 148, 3) := by decide +kernel
theorem dX6_cuts_15 : decode cX6_cuts 15 = .ok (.lload_n 1, 1) := by decide +kernel
theorem dX6_cuts_16 : decode cX6_cuts 16 = .ok (.iload_n 3, 1) := by decide +kernel
theorem dX6_cuts_17 : decode cX6_cuts 17 = .ok (.iload 7, 2) := by decide +kernel
theorem dX6_cuts_19 : decode cX6_cuts 19 = .ok (.invokestatic 194, 3) := by decide +kernel
theorem dX6_cuts_22 : decode cX6_cuts 22 = .ok (.istore 8, 2) := by decide +kernel
theorem dX6_cuts_24 : decode cX6_cuts 24 = .ok (.ldc2_w 198, 3) := by decide +kernel
theorem dX6_cuts_27 : decode cX6_cuts 27 = .ok (.lload 4, 2) := by decide +kernel
theorem dX6_cuts_29 : decode cX6_cuts 29 = .ok (.lmul, 1) := by decide +kernel
theorem dX6_cuts_30 : decode cX6_cuts 30 = .ok (.iload 8, 2) := by decide +kernel
theorem dX6_cuts_32 : decode cX6_cuts 32 = .ok (.i2l, 1) := by decide +kernel
theorem dX6_cuts_33 : decode cX6_cuts 33 = .ok (.ladd, 1) := by decide +kernel
theorem dX6_cuts_34 : decode cX6_cuts 34 = .ok (.lstore 4, 2) := by decide +kernel
theorem dX6_cuts_36 : decode cX6_cuts 36 = .ok (.iinc 6 1, 3) := by decide +kernel
theorem dX6_cuts_39 : decode cX6_cuts 39 = .ok (.iload 8, 2) := by decide +kernel
theorem dX6_cuts_41 : decode cX6_cuts 41 = .ok (.iconst 4, 1) := by decide +kernel
theorem dX6_cuts_42 : decode cX6_cuts 42 = .ok (.irem, 1) := by decide +kernel
theorem dX6_cuts_43 : decode cX6_cuts 43 = .ok (.iconst 3, 1) := by decide +kernel
theorem dX6_cuts_44 : decode cX6_cuts 44 = .ok (.if_icmp .eq 11, 3) := by decide +kernel
theorem dX6_cuts_47 : decode cX6_cuts 47 = .ok (.iload 7, 2) := by decide +kernel
theorem dX6_cuts_49 : decode cX6_cuts 49 = .ok (.iload_n 3, 1) := by decide +kernel
theorem dX6_cuts_50 : decode cX6_cuts 50 = .ok (.iconst 1, 1) := by decide +kernel
theorem dX6_cuts_51 : decode cX6_cuts 51 = .ok (.isub, 1) := by decide +kernel
theorem dX6_cuts_52 : decode cX6_cuts 52 = .ok (.if_icmp .ne 102, 3) := by decide +kernel
theorem dX6_cuts_55 : decode cX6_cuts 55 = .ok (.iconst 0, 1) := by decide +kernel
theorem dX6_cuts_56 : decode cX6_cuts 56 = .ok (.istore 9, 2) := by decide +kernel
theorem dX6_cuts_58 : decode cX6_cuts 58 = .ok (.iconst 0, 1) := by decide +kernel
theorem dX6_cuts_59 : decode cX6_cuts 59 = .ok (.istore 10, 2) := by decide +kernel
theorem dX6_cuts_61 : decode cX6_cuts 61 = .ok (.iload 10, 2) := by decide +kernel
theorem dX6_cuts_63 : decode cX6_cuts 63 = .ok (.aload_n 0, 1) := by decide +kernel
theorem dX6_cuts_64 : decode cX6_cuts 64 = .ok (.getfield 200, 3) := by decide +kernel
theorem dX6_cuts_67 : decode cX6_cuts 67 = .ok (.if_icmp .ge 44, 3) := by decide +kernel
theorem dX6_cuts_70 : decode cX6_cuts 70 = .ok (.iload 9, 2) := by decide +kernel
theorem dX6_cuts_72 : decode cX6_cuts 72 = .ok (.aload_n 0, 1) := by decide +kernel
theorem dX6_cuts_73 : decode cX6_cuts 73 = .ok (.getfield 85, 3) := by decide +kernel
theorem dX6_cuts_76 : decode cX6_cuts 76 = .ok (.iload 10, 2) := by decide +kernel
theorem dX6_cuts_78 : decode cX6_cuts 78 = .ok (.laload, 1) := by decide +kernel
theorem dX6_cuts_79 : decode cX6_cuts 79 = .ok (.lload 4, 2) := by decide +kernel
theorem dX6_cuts_81 : decode cX6_cuts 81 = .ok (.lcmp, 1) := by decide +kernel
theorem dX6_cuts_82 : decode cX6_cuts 82 = .ok (.ifCond .ne 19, 3) := by decide +kernel
theorem dX6_cuts_85 : decode cX6_cuts 85 = .ok (.aload_n 0, 1) := by decide +kernel
theorem dX6_cuts_86 : decode cX6_cuts 86 = .ok (.getfield 88, 3) := by decide +kernel
theorem dX6_cuts_89 : decode cX6_cuts 89 = .ok (.iload 10, 2) := by decide +kernel
theorem dX6_cuts_91 : decode cX6_cuts 91 = .ok (.iaload, 1) := by decide +kernel
theorem dX6_cuts_92 : decode cX6_cuts 92 = .ok (.iload 6, 2) := by decide +kernel
theorem dX6_cuts_94 : decode cX6_cuts 94 = .ok (.if_icmp .ne 7, 3) := by decide +kernel
theorem dX6_cuts_97 : decode cX6_cuts 97 = .ok (.iconst 1, 1) := by decide +kernel
theorem dX6_cuts_98 : decode cX6_cuts 98 = .ok (.goto 4, 3) := by decide +kernel
theorem dX6_cuts_101 : decode cX6_cuts 101 = .ok (.iconst 0, 1) := by decide +kernel
theorem dX6_cuts_102 : decode cX6_cuts 102 = .ok (.ior, 1) := by decide +kernel
theorem dX6_cuts_103 : decode cX6_cuts 103 = .ok (.istore 9, 2) := by decide +kernel
theorem dX6_cuts_105 : decode cX6_cuts 105 = .ok (.iinc 10 1, 3) := by decide +kernel
theorem dX6_cuts_108 : decode cX6_cuts 108 = .ok (.goto (-47), 3) := by decide +kernel
theorem dX6_cuts_111 : decode cX6_cuts 111 = .ok (.iload 9, 2) := by decide +kernel
theorem dX6_cuts_113 : decode cX6_cuts 113 = .ok (.ifCond .ne 35, 3) := by decide +kernel
theorem dX6_cuts_116 : decode cX6_cuts 116 = .ok (.aload_n 0, 1) := by decide +kernel
theorem dX6_cuts_117 : decode cX6_cuts 117 = .ok (.getfield 85, 3) := by decide +kernel
theorem dX6_cuts_120 : decode cX6_cuts 120 = .ok (.aload_n 0, 1) := by decide +kernel
theorem dX6_cuts_121 : decode cX6_cuts 121 = .ok (.getfield 200, 3) := by decide +kernel
theorem dX6_cuts_124 : decode cX6_cuts 124 = .ok (.lload 4, 2) := by decide +kernel
theorem dX6_cuts_126 : decode cX6_cuts 126 = .ok (.lastore, 1) := by decide +kernel
theorem dX6_cuts_127 : decode cX6_cuts 127 = .ok (.aload_n 0, 1) := by decide +kernel
theorem dX6_cuts_128 : decode cX6_cuts 128 = .ok (.getfield 88, 3) := by decide +kernel
theorem dX6_cuts_131 : decode cX6_cuts 131 = .ok (.aload_n 0, 1) := by decide +kernel
theorem dX6_cuts_132 : decode cX6_cuts 132 = .ok (.getfield 200, 3) := by decide +kernel
theorem dX6_cuts_135 : decode cX6_cuts 135 = .ok (.iload 6, 2) := by decide +kernel
theorem dX6_cuts_137 : decode cX6_cuts 137 = .ok (.iastore, 1) := by decide +kernel
theorem dX6_cuts_138 : decode cX6_cuts 138 = .ok (.aload_n 0, 1) := by decide +kernel
theorem dX6_cuts_139 : decode cX6_cuts 139 = .ok (.dup, 1) := by decide +kernel
theorem dX6_cuts_140 : decode cX6_cuts 140 = .ok (.getfield 200, 3) := by decide +kernel
theorem dX6_cuts_143 : decode cX6_cuts 143 = .ok (.iconst 1, 1) := by decide +kernel
theorem dX6_cuts_144 : decode cX6_cuts 144 = .ok (.iadd, 1) := by decide +kernel
theorem dX6_cuts_145 : decode cX6_cuts 145 = .ok (.putfield 200, 3) := by decide +kernel
theorem dX6_cuts_148 : decode cX6_cuts 148 = .ok (.lconst 0, 1) := by decide +kernel
theorem dX6_cuts_149 : decode cX6_cuts 149 = .ok (.lstore 4, 2) := by decide +kernel
theorem dX6_cuts_151 : decode cX6_cuts 151 = .ok (.iconst 0, 1) := by decide +kernel
theorem dX6_cuts_152 : decode cX6_cuts 152 = .ok (.istore 6, 2) := by decide +kernel
theorem dX6_cuts_154 : decode cX6_cuts 154 = .ok (.iinc 7 1, 3) := by decide +kernel
theorem dX6_cuts_157 : decode cX6_cuts 157 = .ok (.goto (-148), 3) := by decide +kernel
theorem dX6_cuts_160 : decode cX6_cuts 160 = .ok (.return_, 1) := by decide +kernel
theorem dX6_pieceAt_0 : decode cX6_pieceAt 0 = .ok (.bipush (-9), 2) := by decide +kernel
theorem dX6_pieceAt_2 : decode cX6_pieceAt 2 = .ok (.istore 5, 2) := by decide +kernel
theorem dX6_pieceAt_4 : decode cX6_pieceAt 4 = .ok (.iconst 0, 1) := by decide +kernel
theorem dX6_pieceAt_5 : decode cX6_pieceAt 5 = .ok (.istore 6, 2) := by decide +kernel
theorem dX6_pieceAt_7 : decode cX6_pieceAt 7 = .ok (.iload 6, 2) := by decide +kernel
theorem dX6_pieceAt_9 : decode cX6_pieceAt 9 = .ok (.aload_n 0, 1) := by decide +kernel
theorem dX6_pieceAt_10 : decode cX6_pieceAt 10 = .ok (.getfield 76, 3) := by decide +kernel
theorem dX6_pieceAt_13 : decode cX6_pieceAt 13 = .ok (.iload_n 1, 1) := by decide +kernel
theorem dX6_pieceAt_14 : decode cX6_pieceAt 14 = .ok (.iaload, 1) := by decide +kernel
theorem dX6_pieceAt_15 : decode cX6_pieceAt 15 = .ok (.if_icmp .ge 54, 3) := by decide +kernel
theorem dX6_pieceAt_18 : decode cX6_pieceAt 18 = .ok (.aload_n 0, 1) := by decide +kernel
theorem dX6_pieceAt_19 : decode cX6_pieceAt 19 = .ok (.getfield 79, 3) := by decide +kernel
theorem dX6_pieceAt_22 : decode cX6_pieceAt 22 = .ok (.sipush 200, 3) := by decide +kernel
theorem dX6_pieceAt_25 : decode cX6_pieceAt 25 = .ok (.iload_n 1, 1) := by decide +kernel
theorem dX6_pieceAt_26 : decode cX6_pieceAt 26 = .ok (.imul, 1) := by decide +kernel
theorem dX6_pieceAt_27 : decode cX6_pieceAt 27 = .ok (.iload 6, 2) := by decide +kernel
theorem dX6_pieceAt_29 : decode cX6_pieceAt 29 = .ok (.iadd, 1) := by decide +kernel
theorem dX6_pieceAt_30 : decode cX6_pieceAt 30 = .ok (.laload, 1) := by decide +kernel
theorem dX6_pieceAt_31 : decode cX6_pieceAt 31 = .ok (.lload_n 2, 1) := by decide +kernel
theorem dX6_pieceAt_32 : decode cX6_pieceAt 32 = .ok (.lcmp, 1) := by decide +kernel
theorem dX6_pieceAt_33 : decode cX6_pieceAt 33 = .ok (.ifCond .ne 26, 3) := by decide +kernel
theorem dX6_pieceAt_36 : decode cX6_pieceAt 36 = .ok (.aload_n 0, 1) := by decide +kernel
theorem dX6_pieceAt_37 : decode cX6_pieceAt 37 = .ok (.getfield 82, 3) := by decide +kernel
theorem dX6_pieceAt_40 : decode cX6_pieceAt 40 = .ok (.sipush 200, 3) := by decide +kernel
theorem dX6_pieceAt_43 : decode cX6_pieceAt 43 = .ok (.iload_n 1, 1) := by decide +kernel
theorem dX6_pieceAt_44 : decode cX6_pieceAt 44 = .ok (.imul, 1) := by decide +kernel
theorem dX6_pieceAt_45 : decode cX6_pieceAt 45 = .ok (.iload 6, 2) := by decide +kernel
theorem dX6_pieceAt_47 : decode cX6_pieceAt 47 = .ok (.iadd, 1) := by decide +kernel
theorem dX6_pieceAt_48 : decode cX6_pieceAt 48 = .ok (.iaload, 1) := by decide +kernel
theorem dX6_pieceAt_49 : decode cX6_pieceAt 49 = .ok (.iload 4, 2) := by decide +kernel
theorem dX6_pieceAt_51 : decode cX6_pieceAt 51 = .ok (.if_icmp .ne 8, 3) := by decide +kernel
theorem dX6_pieceAt_54 : decode cX6_pieceAt 54 = .ok (.iload 6, 2) := by decide +kernel
theorem dX6_pieceAt_56 : decode cX6_pieceAt 56 = .ok (.goto 5, 3) := by decide +kernel
theorem dX6_pieceAt_59 : decode cX6_pieceAt 59 = .ok (.iload 5, 2) := by decide +kernel
theorem dX6_pieceAt_61 : decode cX6_pieceAt 61 = .ok (.istore 5, 2) := by decide +kernel
theorem dX6_pieceAt_63 : decode cX6_pieceAt 63 = .ok (.iinc 6 1, 3) := by decide +kernel
theorem dX6_pieceAt_66 : decode cX6_pieceAt 66 = .ok (.goto (-59), 3) := by decide +kernel
theorem dX6_pieceAt_69 : decode cX6_pieceAt 69 = .ok (.iload 5, 2) := by decide +kernel
theorem dX6_pieceAt_71 : decode cX6_pieceAt 71 = .ok (.ireturn, 1) := by decide +kernel
theorem dX6_bytesAt_0 : decode cX6_bytesAt 0 = .ok (.iconst 0, 1) := by decide +kernel
theorem dX6_bytesAt_1 : decode cX6_bytesAt 1 = .ok (.istore_n 2, 1) := by decide +kernel
theorem dX6_bytesAt_2 : decode cX6_bytesAt 2 = .ok (.iconst 0, 1) := by decide +kernel
theorem dX6_bytesAt_3 : decode cX6_bytesAt 3 = .ok (.istore_n 3, 1) := by decide +kernel
theorem dX6_bytesAt_4 : decode cX6_bytesAt 4 = .ok (.iload_n 3, 1) := by decide +kernel
theorem dX6_bytesAt_5 : decode cX6_bytesAt 5 = .ok (.aload_n 0, 1) := by decide +kernel
theorem dX6_bytesAt_6 : decode cX6_bytesAt 6 = .ok (.getfield 76, 3) := by decide +kernel
theorem dX6_bytesAt_9 : decode cX6_bytesAt 9 = .ok (.iload_n 1, 1) := by decide +kernel
theorem dX6_bytesAt_10 : decode cX6_bytesAt 10 = .ok (.iaload, 1) := by decide +kernel
theorem dX6_bytesAt_11 : decode cX6_bytesAt 11 = .ok (.if_icmp .ge 24, 3) := by decide +kernel
theorem dX6_bytesAt_14 : decode cX6_bytesAt 14 = .ok (.iload_n 2, 1) := by decide +kernel
theorem dX6_bytesAt_15 : decode cX6_bytesAt 15 = .ok (.aload_n 0, 1) := by decide +kernel
theorem dX6_bytesAt_16 : decode cX6_bytesAt 16 = .ok (.getfield 82, 3) := by decide +kernel
theorem dX6_bytesAt_19 : decode cX6_bytesAt 19 = .ok (.sipush 200, 3) := by decide +kernel
theorem dX6_bytesAt_22 : decode cX6_bytesAt 22 = .ok (.iload_n 1, 1) := by decide +kernel
theorem dX6_bytesAt_23 : decode cX6_bytesAt 23 = .ok (.imul, 1) := by decide +kernel
theorem dX6_bytesAt_24 : decode cX6_bytesAt 24 = .ok (.iload_n 3, 1) := by decide +kernel
theorem dX6_bytesAt_25 : decode cX6_bytesAt 25 = .ok (.iadd, 1) := by decide +kernel
theorem dX6_bytesAt_26 : decode cX6_bytesAt 26 = .ok (.iaload, 1) := by decide +kernel
theorem dX6_bytesAt_27 : decode cX6_bytesAt 27 = .ok (.iadd, 1) := by decide +kernel
theorem dX6_bytesAt_28 : decode cX6_bytesAt 28 = .ok (.istore_n 2, 1) := by decide +kernel
theorem dX6_bytesAt_29 : decode cX6_bytesAt 29 = .ok (.iinc 3 1, 3) := by decide +kernel
theorem dX6_bytesAt_32 : decode cX6_bytesAt 32 = .ok (.goto (-28), 3) := by decide +kernel
theorem dX6_bytesAt_35 : decode cX6_bytesAt 35 = .ok (.iload_n 2, 1) := by decide +kernel
theorem dX6_bytesAt_36 : decode cX6_bytesAt 36 = .ok (.ireturn, 1) := by decide +kernel
theorem dX6_lacking_0 : decode cX6_lacking 0 = .ok (.iconst 0, 1) := by decide +kernel
theorem dX6_lacking_1 : decode cX6_lacking 1 = .ok (.istore_n 2, 1) := by decide +kernel
theorem dX6_lacking_2 : decode cX6_lacking 2 = .ok (.iconst 0, 1) := by decide +kernel
theorem dX6_lacking_3 : decode cX6_lacking 3 = .ok (.istore_n 3, 1) := by decide +kernel
theorem dX6_lacking_4 : decode cX6_lacking 4 = .ok (.iload_n 3, 1) := by decide +kernel
theorem dX6_lacking_5 : decode cX6_lacking 5 = .ok (.aload_n 0, 1) := by decide +kernel
theorem dX6_lacking_6 : decode cX6_lacking 6 = .ok (.getfield 200, 3) := by decide +kernel
theorem dX6_lacking_9 : decode cX6_lacking 9 = .ok (.if_icmp .ge 44, 3) := by decide +kernel
theorem dX6_lacking_12 : decode cX6_lacking 12 = .ok (.iload_n 2, 1) := by decide +kernel
theorem dX6_lacking_13 : decode cX6_lacking 13 = .ok (.aload_n 0, 1) := by decide +kernel
theorem dX6_lacking_14 : decode cX6_lacking 14 = .ok (.iload_n 1, 1) := by decide +kernel
theorem dX6_lacking_15 : decode cX6_lacking 15 = .ok (.aload_n 0, 1) := by decide +kernel
theorem dX6_lacking_16 : decode cX6_lacking 16 = .ok (.getfield 85, 3) := by decide +kernel
theorem dX6_lacking_19 : decode cX6_lacking 19 = .ok (.iload_n 3, 1) := by decide +kernel
theorem dX6_lacking_20 : decode cX6_lacking 20 = .ok (.laload, 1) := by decide +kernel
theorem dX6_lacking_21 : decode cX6_lacking 21 = .ok (.aload_n 0, 1) := by decide +kernel
theorem dX6_lacking_22 : decode cX6_lacking 22 = .ok (.getfield 88, 3) := by decide +kernel
theorem dX6_lacking_25 : decode cX6_lacking 25 = .ok (.iload_n 3, 1) := by decide +kernel
theorem dX6_lacking_26 : decode cX6_lacking 26 = .ok (.iaload, 1) := by decide +kernel
theorem dX6_lacking_27 : decode cX6_lacking 27 = .ok (.invokevirtual 203, 3) := by decide +kernel
theorem dX6_lacking_30 : decode cX6_lacking 30 = .ok (.bipush (-9), 2) := by decide +kernel
theorem dX6_lacking_32 : decode cX6_lacking 32 = .ok (.if_icmp .ne 12, 3) := by decide +kernel
theorem dX6_lacking_35 : decode cX6_lacking 35 = .ok (.aload_n 0, 1) := by decide +kernel
theorem dX6_lacking_36 : decode cX6_lacking 36 = .ok (.getfield 88, 3) := by decide +kernel
theorem dX6_lacking_39 : decode cX6_lacking 39 = .ok (.iload_n 3, 1) := by decide +kernel
theorem dX6_lacking_40 : decode cX6_lacking 40 = .ok (.iaload, 1) := by decide +kernel
theorem dX6_lacking_41 : decode cX6_lacking 41 = .ok (.goto 4, 3) := by decide +kernel
theorem dX6_lacking_44 : decode cX6_lacking 44 = .ok (.iconst 0, 1) := by decide +kernel
theorem dX6_lacking_45 : decode cX6_lacking 45 = .ok (.iadd, 1) := by decide +kernel
theorem dX6_lacking_46 : decode cX6_lacking 46 = .ok (.istore_n 2, 1) := by decide +kernel
theorem dX6_lacking_47 : decode cX6_lacking 47 = .ok (.iinc 3 1, 3) := by decide +kernel
theorem dX6_lacking_50 : decode cX6_lacking 50 = .ok (.goto (-46), 3) := by decide +kernel
theorem dX6_lacking_53 : decode cX6_lacking 53 = .ok (.iload_n 2, 1) := by decide +kernel
theorem dX6_lacking_54 : decode cX6_lacking 54 = .ok (.ireturn, 1) := by decide +kernel
theorem dX6_takes_0 : decode cX6_takes 0 = .ok (.iconst 0, 1) := by decide +kernel
theorem dX6_takes_1 : decode cX6_takes 1 = .ok (.istore_n 2, 1) := by decide +kernel
theorem dX6_takes_2 : decode cX6_takes 2 = .ok (.iload_n 2, 1) := by decide +kernel
theorem dX6_takes_3 : decode cX6_takes 3 = .ok (.aload_n 0, 1) := by decide +kernel
theorem dX6_takes_4 : decode cX6_takes 4 = .ok (.getfield 200, 3) := by decide +kernel
theorem dX6_takes_7 : decode cX6_takes 7 = .ok (.if_icmp .ge 78, 3) := by decide +kernel
theorem dX6_takes_10 : decode cX6_takes 10 = .ok (.aload_n 0, 1) := by decide +kernel
theorem dX6_takes_11 : decode cX6_takes 11 = .ok (.iload_n 1, 1) := by decide +kernel
theorem dX6_takes_12 : decode cX6_takes 12 = .ok (.aload_n 0, 1) := by decide +kernel
theorem dX6_takes_13 : decode cX6_takes 13 = .ok (.getfield 85, 3) := by decide +kernel
theorem dX6_takes_16 : decode cX6_takes 16 = .ok (.iload_n 2, 1) := by decide +kernel
theorem dX6_takes_17 : decode cX6_takes 17 = .ok (.laload, 1) := by decide +kernel
theorem dX6_takes_18 : decode cX6_takes 18 = .ok (.aload_n 0, 1) := by decide +kernel
theorem dX6_takes_19 : decode cX6_takes 19 = .ok (.getfield 88, 3) := by decide +kernel
theorem dX6_takes_22 : decode cX6_takes 22 = .ok (.iload_n 2, 1) := by decide +kernel
theorem dX6_takes_23 : decode cX6_takes 23 = .ok (.iaload, 1) := by decide +kernel
theorem dX6_takes_24 : decode cX6_takes 24 = .ok (.invokevirtual 203, 3) := by decide +kernel
theorem dX6_takes_27 : decode cX6_takes 27 = .ok (.bipush (-9), 2) := by decide +kernel
theorem dX6_takes_29 : decode cX6_takes 29 = .ok (.if_icmp .ne 50, 3) := by decide +kernel
theorem dX6_takes_32 : decode cX6_takes 32 = .ok (.sipush 200, 3) := by decide +kernel
theorem dX6_takes_35 : decode cX6_takes 35 = .ok (.iload_n 1, 1) := by decide +kernel
theorem dX6_takes_36 : decode cX6_takes 36 = .ok (.imul, 1) := by decide +kernel
theorem dX6_takes_37 : decode cX6_takes 37 = .ok (.aload_n 0, 1) := by decide +kernel
theorem dX6_takes_38 : decode cX6_takes 38 = .ok (.getfield 76, 3) := by decide +kernel
theorem dX6_takes_41 : decode cX6_takes 41 = .ok (.iload_n 1, 1) := by decide +kernel
theorem dX6_takes_42 : decode cX6_takes 42 = .ok (.iaload, 1) := by decide +kernel
theorem dX6_takes_43 : decode cX6_takes 43 = .ok (.iadd, 1) := by decide +kernel
theorem dX6_takes_44 : decode cX6_takes 44 = .ok (.istore_n 3, 1) := by decide +kernel
theorem dX6_takes_45 : decode cX6_takes 45 = .ok (.aload_n 0, 1) := by decide +kernel
theorem dX6_takes_46 : decode cX6_takes 46 = .ok (.getfield 79, 3) := by decide +kernel
theorem dX6_takes_49 : decode cX6_takes 49 = .ok (.iload_n 3, 1) := by decide +kernel
theorem dX6_takes_50 : decode cX6_takes 50 = .ok (.aload_n 0, 1) := by decide +kernel
theorem dX6_takes_51 : decode cX6_takes 51 = .ok (.getfield 85, 3) := by decide +kernel
theorem dX6_takes_54 : decode cX6_takes 54 = .ok (.iload_n 2, 1) := by decide +kernel
theorem dX6_takes_55 : decode cX6_takes 55 = .ok (.laload, 1) := by decide +kernel
theorem dX6_takes_56 : decode cX6_takes 56 = .ok (.lastore, 1) := by decide +kernel
theorem dX6_takes_57 : decode cX6_takes 57 = .ok (.aload_n 0, 1) := by decide +kernel
theorem dX6_takes_58 : decode cX6_takes 58 = .ok (.getfield 82, 3) := by decide +kernel
theorem dX6_takes_61 : decode cX6_takes 61 = .ok (.iload_n 3, 1) := by decide +kernel
theorem dX6_takes_62 : decode cX6_takes 62 = .ok (.aload_n 0, 1) := by decide +kernel
theorem dX6_takes_63 : decode cX6_takes 63 = .ok (.getfield 88, 3) := by decide +kernel
theorem dX6_takes_66 : decode cX6_takes 66 = .ok (.iload_n 2, 1) := by decide +kernel
theorem dX6_takes_67 : decode cX6_takes 67 = .ok (.iaload, 1) := by decide +kernel
theorem dX6_takes_68 : decode cX6_takes 68 = .ok (.iastore, 1) := by decide +kernel
theorem dX6_takes_69 : decode cX6_takes 69 = .ok (.aload_n 0, 1) := by decide +kernel
theorem dX6_takes_70 : decode cX6_takes 70 = .ok (.getfield 76, 3) := by decide +kernel
theorem dX6_takes_73 : decode cX6_takes 73 = .ok (.iload_n 1, 1) := by decide +kernel
theorem dX6_takes_74 : decode cX6_takes 74 = .ok (.dup2, 1) := by decide +kernel
theorem dX6_takes_75 : decode cX6_takes 75 = .ok (.iaload, 1) := by decide +kernel
theorem dX6_takes_76 : decode cX6_takes 76 = .ok (.iconst 1, 1) := by decide +kernel
theorem dX6_takes_77 : decode cX6_takes 77 = .ok (.iadd, 1) := by decide +kernel
theorem dX6_takes_78 : decode cX6_takes 78 = .ok (.iastore, 1) := by decide +kernel
theorem dX6_takes_79 : decode cX6_takes 79 = .ok (.iinc 2 1, 3) := by decide +kernel
theorem dX6_takes_82 : decode cX6_takes 82 = .ok (.goto (-80), 3) := by decide +kernel
theorem dX6_takes_85 : decode cX6_takes 85 = .ok (.return_, 1) := by decide +kernel
theorem dX6_isFile_0 : decode cX6_isFile 0 = .ok (.aload_n 0, 1) := by decide +kernel
theorem dX6_isFile_1 : decode cX6_isFile 1 = .ok (.getfield 46, 3) := by decide +kernel
theorem dX6_isFile_4 : decode cX6_isFile 4 = .ok (.iload_n 1, 1) := by decide +kernel
theorem dX6_isFile_5 : decode cX6_isFile 5 = .ok (.baload, 1) := by decide +kernel
theorem dX6_isFile_6 : decode cX6_isFile 6 = .ok (.ifCond .eq 17, 3) := by decide +kernel
theorem dX6_isFile_9 : decode cX6_isFile 9 = .ok (.aload_n 0, 1) := by decide +kernel
theorem dX6_isFile_10 : decode cX6_isFile 10 = .ok (.getfield 49, 3) := by decide +kernel
theorem dX6_isFile_13 : decode cX6_isFile 13 = .ok (.iload_n 1, 1) := by decide +kernel
theorem dX6_isFile_14 : decode cX6_isFile 14 = .ok (.iaload, 1) := by decide +kernel
theorem dX6_isFile_15 : decode cX6_isFile 15 = .ok (.iconst 1, 1) := by decide +kernel
theorem dX6_isFile_16 : decode cX6_isFile 16 = .ok (.if_icmp .ne 7, 3) := by decide +kernel
theorem dX6_isFile_19 : decode cX6_isFile 19 = .ok (.iconst 1, 1) := by decide +kernel
theorem dX6_isFile_20 : decode cX6_isFile 20 = .ok (.goto 4, 3) := by decide +kernel
theorem dX6_isFile_23 : decode cX6_isFile 23 = .ok (.iconst 0, 1) := by decide +kernel
theorem dX6_isFile_24 : decode cX6_isFile 24 = .ok (.ireturn, 1) := by decide +kernel
theorem dX6_write_0 : decode cX6_write 0 = .ok (.aload_n 0, 1) := by decide +kernel
theorem dX6_write_1 : decode cX6_write 1 = .ok (.iconst 0, 1) := by decide +kernel
theorem dX6_write_2 : decode cX6_write 2 = .ok (.putfield 106, 3) := by decide +kernel
theorem dX6_write_5 : decode cX6_write 5 = .ok (.aload_n 0, 1) := by decide +kernel
theorem dX6_write_6 : decode cX6_write 6 = .ok (.iload_n 1, 1) := by decide +kernel
theorem dX6_write_7 : decode cX6_write 7 = .ok (.invokevirtual 179, 3) := by decide +kernel
theorem dX6_write_10 : decode cX6_write 10 = .ok (.ifCond .eq 21, 3) := by decide +kernel
theorem dX6_write_13 : decode cX6_write 13 = .ok (.iload_n 2, 1) := by decide +kernel
theorem dX6_write_14 : decode cX6_write 14 = .ok (.invokestatic 182, 3) := by decide +kernel
theorem dX6_write_17 : decode cX6_write 17 = .ok (.ifCond .eq 14, 3) := by decide +kernel
theorem dX6_write_20 : decode cX6_write 20 = .ok (.iload 5, 2) := by decide +kernel
theorem dX6_write_22 : decode cX6_write 22 = .ok (.iconst 0, 1) := by decide +kernel
theorem dX6_write_23 : decode cX6_write 23 = .ok (.bipush 8, 2) := by decide +kernel
theorem dX6_write_25 : decode cX6_write 25 = .ok (.invokestatic 115, 3) := by decide +kernel
theorem dX6_write_28 : decode cX6_write 28 = .ok (.ifCond .ne 5, 3) := by decide +kernel
theorem dX6_write_31 : decode cX6_write 31 = .ok (.iconst (-1), 1) := by decide +kernel
theorem dX6_write_32 : decode cX6_write 32 = .ok (.ireturn, 1) := by decide +kernel
theorem dX6_write_33 : decode cX6_write 33 = .ok (.aload_n 0, 1) := by decide +kernel
theorem dX6_write_34 : decode cX6_write 34 = .ok (.iload_n 1, 1) := by decide +kernel
theorem dX6_write_35 : decode cX6_write 35 = .ok (.invokevirtual 176, 3) := by decide +kernel
theorem dX6_write_38 : decode cX6_write 38 = .ok (.aload_n 0, 1) := by decide +kernel
theorem dX6_write_39 : decode cX6_write 39 = .ok (.iconst 0, 1) := by decide +kernel
theorem dX6_write_40 : decode cX6_write 40 = .ok (.putfield 200, 3) := by decide +kernel
theorem dX6_write_43 : decode cX6_write 43 = .ok (.aload_n 0, 1) := by decide +kernel
theorem dX6_write_44 : decode cX6_write 44 = .ok (.lload_n 3, 1) := by decide +kernel
theorem dX6_write_45 : decode cX6_write 45 = .ok (.iload 5, 2) := by decide +kernel
theorem dX6_write_47 : decode cX6_write 47 = .ok (.invokevirtual 207, 3) := by decide +kernel
theorem dX6_write_50 : decode cX6_write 50 = .ok (.aload_n 0, 1) := by decide +kernel
theorem dX6_write_51 : decode cX6_write 51 = .ok (.iload_n 2, 1) := by decide +kernel
theorem dX6_write_52 : decode cX6_write 52 = .ok (.invokevirtual 211, 3) := by decide +kernel
theorem dX6_write_55 : decode cX6_write 55 = .ok (.ifCond .eq 23, 3) := by decide +kernel
theorem dX6_write_58 : decode cX6_write 58 = .ok (.aload_n 0, 1) := by decide +kernel
theorem dX6_write_59 : decode cX6_write 59 = .ok (.iload_n 1, 1) := by decide +kernel
theorem dX6_write_60 : decode cX6_write 60 = .ok (.invokevirtual 214, 3) := by decide +kernel
theorem dX6_write_63 : decode cX6_write 63 = .ok (.aload_n 0, 1) := by decide +kernel
theorem dX6_write_64 : decode cX6_write 64 = .ok (.iload_n 1, 1) := by decide +kernel
theorem dX6_write_65 : decode cX6_write 65 = .ok (.invokevirtual 218, 3) := by decide +kernel
theorem dX6_write_68 : decode cX6_write 68 = .ok (.iadd, 1) := by decide +kernel
theorem dX6_write_69 : decode cX6_write 69 = .ok (.aload_n 0, 1) := by decide +kernel
theorem dX6_write_70 : decode cX6_write 70 = .ok (.getfield 73, 3) := by decide +kernel
theorem dX6_write_73 : decode cX6_write 73 = .ok (.iload_n 1, 1) := by decide +kernel
theorem dX6_write_74 : decode cX6_write 74 = .ok (.iaload, 1) := by decide +kernel
theorem dX6_write_75 : decode cX6_write 75 = .ok (.if_icmp .le 6, 3) := by decide +kernel
theorem dX6_write_78 : decode cX6_write 78 = .ok (.bipush (-2), 2) := by decide +kernel
theorem dX6_write_80 : decode cX6_write 80 = .ok (.ireturn, 1) := by decide +kernel
theorem dX6_write_81 : decode cX6_write 81 = .ok (.aload_n 0, 1) := by decide +kernel
theorem dX6_write_82 : decode cX6_write 82 = .ok (.getfield 13, 3) := by decide +kernel
theorem dX6_write_85 : decode cX6_write 85 = .ok (.iload_n 1, 1) := by decide +kernel
theorem dX6_write_86 : decode cX6_write 86 = .ok (.iaload, 1) := by decide +kernel
theorem dX6_write_87 : decode cX6_write 87 = .ok (.bipush 20, 2) := by decide +kernel
theorem dX6_write_89 : decode cX6_write 89 = .ok (.if_icmp .ne 6, 3) := by decide +kernel
theorem dX6_write_92 : decode cX6_write 92 = .ok (.bipush (-3), 2) := by decide +kernel
theorem dX6_write_94 : decode cX6_write 94 = .ok (.ireturn, 1) := by decide +kernel
theorem dX6_write_95 : decode cX6_write 95 = .ok (.aload_n 0, 1) := by decide +kernel
theorem dX6_write_96 : decode cX6_write 96 = .ok (.iload_n 1, 1) := by decide +kernel
theorem dX6_write_97 : decode cX6_write 97 = .ok (.invokevirtual 221, 3) := by decide +kernel
theorem dX6_write_100 : decode cX6_write 100 = .ok (.aload_n 0, 1) := by decide +kernel
theorem dX6_write_101 : decode cX6_write 101 = .ok (.getfield 20, 3) := by decide +kernel
theorem dX6_write_104 : decode cX6_write 104 = .ok (.bipush 20, 2) := by decide +kernel
theorem dX6_write_106 : decode cX6_write 106 = .ok (.iload_n 1, 1) := by decide +kernel
theorem dX6_write_107 : decode cX6_write 107 = .ok (.imul, 1) := by decide +kernel
theorem dX6_write_108 : decode cX6_write 108 = .ok (.aload_n 0, 1) := by decide +kernel
theorem dX6_write_109 : decode cX6_write 109 = .ok (.getfield 13, 3) := by decide +kernel
theorem dX6_write_112 : decode cX6_write 112 = .ok (.iload_n 1, 1) := by decide +kernel
theorem dX6_write_113 : decode cX6_write 113 = .ok (.iaload, 1) := by decide +kernel
theorem dX6_write_114 : decode cX6_write 114 = .ok (.iadd, 1) := by decide +kernel
theorem dX6_write_115 : decode cX6_write 115 = .ok (.lload_n 3, 1) := by decide +kernel
theorem dX6_write_116 : decode cX6_write 116 = .ok (.lastore, 1) := by decide +kernel
theorem dX6_write_117 : decode cX6_write 117 = .ok (.aload_n 0, 1) := by decide +kernel
theorem dX6_write_118 : decode cX6_write 118 = .ok (.iload_n 1, 1) := by decide +kernel
theorem dX6_write_119 : decode cX6_write 119 = .ok (.iconst 3, 1) := by decide +kernel
theorem dX6_write_120 : decode cX6_write 120 = .ok (.iload_n 2, 1) := by decide +kernel
theorem dX6_write_121 : decode cX6_write 121 = .ok (.iconst 0, 1) := by decide +kernel
theorem dX6_write_122 : decode cX6_write 122 = .ok (.iload 5, 2) := by decide +kernel
theorem dX6_write_124 : decode cX6_write 124 = .ok (.iconst 0, 1) := by decide +kernel
theorem dX6_write_125 : decode cX6_write 125 = .ok (.invokevirtual 188, 3) := by decide +kernel
theorem dX6_write_128 : decode cX6_write 128 = .ok (.ireturn, 1) := by decide +kernel
theorem dX6_send_0 : decode cX6_send 0 = .ok (.aload_n 0, 1) := by decide +kernel
theorem dX6_send_1 : decode cX6_send 1 = .ok (.iconst 0, 1) := by decide +kernel
theorem dX6_send_2 : decode cX6_send 2 = .ok (.putfield 106, 3) := by decide +kernel
theorem dX6_send_5 : decode cX6_send 5 = .ok (.aload_n 0, 1) := by decide +kernel
theorem dX6_send_6 : decode cX6_send 6 = .ok (.iload_n 1, 1) := by decide +kernel
theorem dX6_send_7 : decode cX6_send 7 = .ok (.invokevirtual 179, 3) := by decide +kernel
theorem dX6_send_10 : decode cX6_send 10 = .ok (.ifCond .eq 16, 3) := by decide +kernel
theorem dX6_send_13 : decode cX6_send 13 = .ok (.aload_n 0, 1) := by decide +kernel
theorem dX6_send_14 : decode cX6_send 14 = .ok (.iload_n 2, 1) := by decide +kernel
theorem dX6_send_15 : decode cX6_send 15 = .ok (.invokevirtual 179, 3) := by decide +kernel
theorem dX6_send_18 : decode cX6_send 18 = .ok (.ifCond .eq 8, 3) := by decide +kernel
theorem dX6_send_21 : decode cX6_send 21 = .ok (.iload_n 1, 1) := by decide +kernel
theorem dX6_send_22 : decode cX6_send 22 = .ok (.iload_n 2, 1) := by decide +kernel
theorem dX6_send_23 : decode cX6_send 23 = .ok (.if_icmp .ne 5, 3) := by decide +kernel
theorem dX6_send_26 : decode cX6_send 26 = .ok (.iconst (-1), 1) := by decide +kernel
theorem dX6_send_27 : decode cX6_send 27 = .ok (.ireturn, 1) := by decide +kernel
theorem dX6_send_28 : decode cX6_send 28 = .ok (.iconst 0, 1) := by decide +kernel
theorem dX6_send_29 : decode cX6_send 29 = .ok (.istore_n 3, 1) := by decide +kernel
theorem dX6_send_30 : decode cX6_send 30 = .ok (.iconst 0, 1) := by decide +kernel
theorem dX6_send_31 : decode cX6_send 31 = .ok (.istore 4, 2) := by decide +kernel
theorem dX6_send_33 : decode cX6_send 33 = .ok (.iload 4, 2) := by decide +kernel
theorem dX6_send_35 : decode cX6_send 35 = .ok (.aload_n 0, 1) := by decide +kernel
theorem dX6_send_36 : decode cX6_send 36 = .ok (.getfield 7, 3) := by decide +kernel
theorem dX6_send_39 : decode cX6_send 39 = .ok (.if_icmp .ge 73, 3) := by decide +kernel
theorem dX6_send_42 : decode cX6_send 42 = .ok (.aload_n 0, 1) := by decide +kernel
theorem dX6_send_43 : decode cX6_send 43 = .ok (.getfield 24, 3) := by decide +kernel
theorem dX6_send_46 : decode cX6_send 46 = .ok (.iconst 4, 1) := by decide +kernel
theorem dX6_send_47 : decode cX6_send 47 = .ok (.iload_n 1, 1) := by decide +kernel
theorem dX6_send_48 : decode cX6_send 48 = .ok (.imul, 1) := by decide +kernel
theorem dX6_send_49 : decode cX6_send 49 = .ok (.iload 4, 2) := by decide +kernel
theorem dX6_send_51 : decode cX6_send 51 = .ok (.iadd, 1) := by decide +kernel
theorem dX6_send_52 : decode cX6_send 52 = .ok (.iaload, 1) := by decide +kernel
theorem dX6_send_53 : decode cX6_send 53 = .ok (.aload_n 0, 1) := by decide +kernel
theorem dX6_send_54 : decode cX6_send 54 = .ok (.getfield 24, 3) := by decide +kernel
theorem dX6_send_57 : decode cX6_send 57 = .ok (.iconst 4, 1) := by decide +kernel
theorem dX6_send_58 : decode cX6_send 58 = .ok (.iload_n 2, 1) := by decide +kernel
theorem dX6_send_59 : decode cX6_send 59 = .ok (.imul, 1) := by decide +kernel
theorem dX6_send_60 : decode cX6_send 60 = .ok (.iload 4, 2) := by decide +kernel
theorem dX6_send_62 : decode cX6_send 62 = .ok (.iadd, 1) := by decide +kernel
theorem dX6_send_63 : decode cX6_send 63 = .ok (.iaload, 1) := by decide +kernel
theorem dX6_send_64 : decode cX6_send 64 = .ok (.isub, 1) := by decide +kernel
theorem dX6_send_65 : decode cX6_send 65 = .ok (.istore 5, 2) := by decide +kernel
theorem dX6_send_67 : decode cX6_send 67 = .ok (.iload_n 3, 1) := by decide +kernel
theorem dX6_send_68 : decode cX6_send 68 = .ok (.iload 5, 2) := by decide +kernel
theorem dX6_send_70 : decode cX6_send 70 = .ok (.ifCond .le 8, 3) := by decide +kernel
theorem dX6_send_73 : decode cX6_send 73 = .ok (.iload 5, 2) := by decide +kernel
theorem dX6_send_75 : decode cX6_send 75 = .ok (.goto 4, 3) := by decide +kernel
theorem dX6_send_78 : decode cX6_send 78 = .ok (.iconst 0, 1) := by decide +kernel
theorem dX6_send_79 : decode cX6_send 79 = .ok (.iadd, 1) := by decide +kernel
theorem dX6_send_80 : decode cX6_send 80 = .ok (.istore_n 3, 1) := by decide +kernel
theorem dX6_send_81 : decode cX6_send 81 = .ok (.aload_n 0, 1) := by decide +kernel
theorem dX6_send_82 : decode cX6_send 82 = .ok (.getfield 24, 3) := by decide +kernel
theorem dX6_send_85 : decode cX6_send 85 = .ok (.iconst 4, 1) := by decide +kernel
theorem dX6_send_86 : decode cX6_send 86 = .ok (.iload_n 2, 1) := by decide +kernel
theorem dX6_send_87 : decode cX6_send 87 = .ok (.imul, 1) := by decide +kernel
theorem dX6_send_88 : decode cX6_send 88 = .ok (.iload 4, 2) := by decide +kernel
theorem dX6_send_90 : decode cX6_send 90 = .ok (.iadd, 1) := by decide +kernel
theorem dX6_send_91 : decode cX6_send 91 = .ok (.dup2, 1) := by decide +kernel
theorem dX6_send_92 : decode cX6_send 92 = .ok (.iaload, 1) := by decide +kernel
theorem dX6_send_93 : decode cX6_send 93 = .ok (.iload 5, 2) := by decide +kernel
theorem dX6_send_95 : decode cX6_send 95 = .ok (.ifCond .le 8, 3) := by decide +kernel
theorem dX6_send_98 : decode cX6_send 98 = .ok (.iload 5, 2) := by decide +kernel
theorem dX6_send_100 : decode cX6_send 100 = .ok (.goto 4, 3) := by decide +kernel
theorem dX6_send_103 : decode cX6_send 103 = .ok (.iconst 0, 1) := by decide +kernel
theorem dX6_send_104 : decode cX6_send 104 = .ok (.iadd, 1) := by decide +kernel
theorem dX6_send_105 : decode cX6_send 105 = .ok (.iastore, 1) := by decide +kernel
theorem dX6_send_106 : decode cX6_send 106 = .ok (.iinc 4 1, 3) := by decide +kernel
theorem dX6_send_109 : decode cX6_send 109 = .ok (.goto (-76), 3) := by decide +kernel
theorem dX6_send_112 : decode cX6_send 112 = .ok (.iload_n 3, 1) := by decide +kernel
theorem dX6_send_113 : decode cX6_send 113 = .ok (.ireturn, 1) := by decide +kernel
theorem dX6_sendSome_0 : decode cX6_sendSome 0 = .ok (.aload_n 0, 1) := by decide +kernel
theorem dX6_sendSome_1 : decode cX6_sendSome 1 = .ok (.iconst 0, 1) := by decide +kernel
theorem dX6_sendSome_2 : decode cX6_sendSome 2 = .ok (.putfield 106, 3) := by decide +kernel
theorem dX6_sendSome_5 : decode cX6_sendSome 5 = .ok (.aload_n 0, 1) := by decide +kernel
theorem dX6_sendSome_6 : decode cX6_sendSome 6 = .ok (.iload_n 1, 1) := by decide +kernel
theorem dX6_sendSome_7 : decode cX6_sendSome 7 = .ok (.invokevirtual 179, 3) := by decide +kernel
theorem dX6_sendSome_10 : decode cX6_sendSome 10 = .ok (.ifCond .eq 26, 3) := by decide +kernel
theorem dX6_sendSome_13 : decode cX6_sendSome 13 = .ok (.aload_n 0, 1) := by decide +kernel
theorem dX6_sendSome_14 : decode cX6_sendSome 14 = .ok (.iload_n 2, 1) := by decide +kernel
theorem dX6_sendSome_15 : decode cX6_sendSome 15 = .ok (.invokevirtual 179, 3) := by decide +kernel
theorem dX6_sendSome_18 : decode cX6_sendSome 18 = .ok (.ifCond .eq 18, 3) := by decide +kernel
theorem dX6_sendSome_21 : decode cX6_sendSome 21 = .ok (.iload_n 1, 1) := by decide +kernel
theorem dX6_sendSome_22 : decode cX6_sendSome 22 = .ok (.iload_n 2, 1) := by decide +kernel
theorem dX6_sendSome_23 : decode cX6_sendSome 23 = .ok (.if_icmp .eq 13, 3) := by decide +kernel
theorem dX6_sendSome_26 : decode cX6_sendSome 26 = .ok (.iload_n 3, 1) := by decide +kernel
theorem dX6_sendSome_27 : decode cX6_sendSome 27 = .ok (.iconst 1, 1) := by decide +kernel
theorem dX6_sendSome_28 : decode cX6_sendSome 28 = .ok (.bipush 20, 2) := by decide +kernel
theorem dX6_sendSome_30 : decode cX6_sendSome 30 = .ok (.invokestatic 115, 3) := by decide +kernel
theorem dX6_sendSome_33 : decode cX6_sendSome 33 = .ok (.ifCond .ne 5, 3) := by decide +kernel
theorem dX6_sendSome_36 : decode cX6_sendSome 36 = .ok (.iconst (-1), 1) := by decide +kernel
theorem dX6_sendSome_37 : decode cX6_sendSome 37 = .ok (.ireturn, 1) := by decide +kernel
theorem dX6_sendSome_38 : decode cX6_sendSome 38 = .ok (.iconst 0, 1) := by decide +kernel
theorem dX6_sendSome_39 : decode cX6_sendSome 39 = .ok (.istore 4, 2) := by decide +kernel
theorem dX6_sendSome_41 : decode cX6_sendSome 41 = .ok (.iconst 0, 1) := by decide +kernel
theorem dX6_sendSome_42 : decode cX6_sendSome 42 = .ok (.istore 5, 2) := by decide +kernel
theorem dX6_sendSome_44 : decode cX6_sendSome 44 = .ok (.iload 5, 2) := by decide +kernel
theorem dX6_sendSome_46 : decode cX6_sendSome 46 = .ok (.iconst 4, 1) := by decide +kernel
theorem dX6_sendSome_47 : decode cX6_sendSome 47 = .ok (.if_icmp .ge 45, 3) := by decide +kernel
theorem dX6_sendSome_50 : decode cX6_sendSome 50 = .ok (.aload_n 0, 1) := by decide +kernel
theorem dX6_sendSome_51 : decode cX6_sendSome 51 = .ok (.getfield 36, 3) := by decide +kernel
theorem dX6_sendSome_54 : decode cX6_sendSome 54 = .ok (.iload 5, 2) := by decide +kernel
theorem dX6_sendSome_56 : decode cX6_sendSome 56 = .ok (.aload_n 0, 1) := by decide +kernel
theorem dX6_sendSome_57 : decode cX6_sendSome 57 = .ok (.getfield 24, 3) := by decide +kernel
theorem dX6_sendSome_60 : decode cX6_sendSome 60 = .ok (.iconst 4, 1) := by decide +kernel
theorem dX6_sendSome_61 : decode cX6_sendSome 61 = .ok (.iload_n 2, 1) := by decide +kernel
theorem dX6_sendSome_62 : decode cX6_sendSome 62 = .ok (.imul, 1) := by decide +kernel
theorem dX6_sendSome_63 : decode cX6_sendSome 63 = .ok (.iload 5, 2) := by decide +kernel
theorem dX6_sendSome_65 : decode cX6_sendSome 65 = .ok (.iadd, 1) := by decide +kernel
theorem dX6_sendSome_66 : decode cX6_sendSome 66 = .ok (.iaload, 1) := by decide +kernel
theorem dX6_sendSome_67 : decode cX6_sendSome 67 = .ok (.iastore, 1) := by decide +kernel
theorem dX6_sendSome_68 : decode cX6_sendSome 68 = .ok (.aload_n 0, 1) := by decide +kernel
theorem dX6_sendSome_69 : decode cX6_sendSome 69 = .ok (.getfield 39, 3) := by decide +kernel
theorem dX6_sendSome_72 : decode cX6_sendSome 72 = .ok (.iload 5, 2) := by decide +kernel
theorem dX6_sendSome_74 : decode cX6_sendSome 74 = .ok (.aload_n 0, 1) := by decide +kernel
theorem dX6_sendSome_75 : decode cX6_sendSome 75 = .ok (.getfield 24, 3) := by decide +kernel
theorem dX6_sendSome_78 : decode cX6_sendSome 78 = .ok (.iconst 4, 1) := by decide +kernel
theorem dX6_sendSome_79 : decode cX6_sendSome 79 = .ok (.iload_n 1, 1) := by decide +kernel
theorem dX6_sendSome_80 : decode cX6_sendSome 80 = .ok (.imul, 1) := by decide +kernel
theorem dX6_sendSome_81 : decode cX6_sendSome 81 = .ok (.iload 5, 2) := by decide +kernel
theorem dX6_sendSome_83 : decode cX6_sendSome 83 = .ok (.iadd, 1) := by decide +kernel
theorem dX6_sendSome_84 : decode cX6_sendSome 84 = .ok (.iaload, 1) := by decide +kernel
theorem dX6_sendSome_85 : decode cX6_sendSome 85 = .ok (.iastore, 1) := by decide +kernel
theorem dX6_sendSome_86 : decode cX6_sendSome 86 = .ok (.iinc 5 1, 3) := by decide +kernel
theorem dX6_sendSome_89 : decode cX6_sendSome 89 = .ok (.goto (-45), 3) := by decide +kernel
theorem dX6_sendSome_92 : decode cX6_sendSome 92 = .ok (.aload_n 0, 1) := by decide +kernel
theorem dX6_sendSome_93 : decode cX6_sendSome 93 = .ok (.aload_n 0, 1) := by decide +kernel
theorem dX6_sendSome_94 : decode cX6_sendSome 94 = .ok (.getfield 39, 3) := by decide +kernel
theorem dX6_sendSome_97 : decode cX6_sendSome 97 = .ok (.invokevirtual 126, 3) := by decide +kernel
theorem dX6_sendSome_100 : decode cX6_sendSome 100 = .ok (.istore 5, 2) := by decide +kernel
theorem dX6_sendSome_102 : decode cX6_sendSome 102 = .ok (.iload 5, 2) := by decide +kernel
theorem dX6_sendSome_104 : decode cX6_sendSome 104 = .ok (.bipush (-9), 2) := by decide +kernel
theorem dX6_sendSome_106 : decode cX6_sendSome 106 = .ok (.if_icmp .eq 51, 3) := by decide +kernel
theorem dX6_sendSome_109 : decode cX6_sendSome 109 = .ok (.iload 4, 2) := by decide +kernel
theorem dX6_sendSome_111 : decode cX6_sendSome 111 = .ok (.iload_n 3, 1) := by decide +kernel
theorem dX6_sendSome_112 : decode cX6_sendSome 112 = .ok (.if_icmp .ge 45, 3) := by decide +kernel
theorem dX6_sendSome_115 : decode cX6_sendSome 115 = .ok (.aload_n 0, 1) := by decide +kernel
theorem dX6_sendSome_116 : decode cX6_sendSome 116 = .ok (.getfield 24, 3) := by decide +kernel
theorem dX6_sendSome_119 : decode cX6_sendSome 119 = .ok (.iconst 4, 1) := by decide +kernel
theorem dX6_sendSome_120 : decode cX6_sendSome 120 = .ok (.iload_n 2, 1) := by decide +kernel
theorem dX6_sendSome_121 : decode cX6_sendSome 121 = .ok (.imul, 1) := by decide +kernel
theorem dX6_sendSome_122 : decode cX6_sendSome 122 = .ok (.iload 5, 2) := by decide +kernel
theorem dX6_sendSome_124 : decode cX6_sendSome 124 = .ok (.iadd, 1) := by decide +kernel
theorem dX6_sendSome_125 : decode cX6_sendSome 125 = .ok (.dup2, 1) := by decide +kernel
theorem dX6_sendSome_126 : decode cX6_sendSome 126 = .ok (.iaload, 1) := by decide +kernel
theorem dX6_sendSome_127 : decode cX6_sendSome 127 = .ok (.iconst 1, 1) := by decide +kernel
theorem dX6_sendSome_128 : decode cX6_sendSome 128 = .ok (.iadd, 1) := by decide +kernel
theorem dX6_sendSome_129 : decode cX6_sendSome 129 = .ok (.iastore, 1) := by decide +kernel
theorem dX6_sendSome_130 : decode cX6_sendSome 130 = .ok (.aload_n 0, 1) := by decide +kernel
theorem dX6_sendSome_131 : decode cX6_sendSome 131 = .ok (.getfield 36, 3) := by decide +kernel
theorem dX6_sendSome_134 : decode cX6_sendSome 134 = .ok (.iload 5, 2) := by decide +kernel
theorem dX6_sendSome_136 : decode cX6_sendSome 136 = .ok (.dup2, 1) := by decide +kernel
theorem dX6_sendSome_137 : decode cX6_sendSome 137 = .ok (.iaload, 1) := by decide +kernel
theorem dX6_sendSome_138 : decode cX6_sendSome 138 = .ok (.iconst 1, 1) := by decide +kernel
theorem dX6_sendSome_139 : decode cX6_sendSome 139 = .ok (.iadd, 1) := by decide +kernel
theorem dX6_sendSome_140 : decode cX6_sendSome 140 = .ok (.iastore, 1) := by decide +kernel
theorem dX6_sendSome_141 : decode cX6_sendSome 141 = .ok (.iinc 4 1, 3) := by decide +kernel
theorem dX6_sendSome_144 : decode cX6_sendSome 144 = .ok (.aload_n 0, 1) := by decide +kernel
theorem dX6_sendSome_145 : decode cX6_sendSome 145 = .ok (.aload_n 0, 1) := by decide +kernel
theorem dX6_sendSome_146 : decode cX6_sendSome 146 = .ok (.getfield 39, 3) := by decide +kernel
theorem dX6_sendSome_149 : decode cX6_sendSome 149 = .ok (.invokevirtual 126, 3) := by decide +kernel
theorem dX6_sendSome_152 : decode cX6_sendSome 152 = .ok (.istore 5, 2) := by decide +kernel
theorem dX6_sendSome_154 : decode cX6_sendSome 154 = .ok (.goto (-52), 3) := by decide +kernel
theorem dX6_sendSome_157 : decode cX6_sendSome 157 = .ok (.iload 4, 2) := by decide +kernel
theorem dX6_sendSome_159 : decode cX6_sendSome 159 = .ok (.ireturn, 1) := by decide +kernel
theorem dX6_change_0 : decode cX6_change 0 = .ok (.aload_n 0, 1) := by decide +kernel
theorem dX6_change_1 : decode cX6_change 1 = .ok (.iconst 0, 1) := by decide +kernel
theorem dX6_change_2 : decode cX6_change 2 = .ok (.putfield 106, 3) := by decide +kernel
theorem dX6_change_5 : decode cX6_change 5 = .ok (.aload_n 0, 1) := by decide +kernel
theorem dX6_change_6 : decode cX6_change 6 = .ok (.iload_n 1, 1) := by decide +kernel
theorem dX6_change_7 : decode cX6_change 7 = .ok (.invokevirtual 179, 3) := by decide +kernel
theorem dX6_change_10 : decode cX6_change 10 = .ok (.ifCond .eq 28, 3) := by decide +kernel
theorem dX6_change_13 : decode cX6_change 13 = .ok (.iload_n 2, 1) := by decide +kernel
theorem dX6_change_14 : decode cX6_change 14 = .ok (.iconst 0, 1) := by decide +kernel
theorem dX6_change_15 : decode cX6_change 15 = .ok (.aload_n 0, 1) := by decide +kernel
theorem dX6_change_16 : decode cX6_change 16 = .ok (.getfield 13, 3) := by decide +kernel
theorem dX6_change_19 : decode cX6_change 19 = .ok (.iload_n 1, 1) := by decide +kernel
theorem dX6_change_20 : decode cX6_change 20 = .ok (.iaload, 1) := by decide +kernel
theorem dX6_change_21 : decode cX6_change 21 = .ok (.iconst 1, 1) := by decide +kernel
theorem dX6_change_22 : decode cX6_change 22 = .ok (.isub, 1) := by decide +kernel
theorem dX6_change_23 : decode cX6_change 23 = .ok (.invokestatic 115, 3) := by decide +kernel
theorem dX6_change_26 : decode cX6_change 26 = .ok (.ifCond .eq 12, 3) := by decide +kernel
theorem dX6_change_29 : decode cX6_change 29 = .ok (.iload_n 3, 1) := by decide +kernel
theorem dX6_change_30 : decode cX6_change 30 = .ok (.iconst 0, 1) := by decide +kernel
theorem dX6_change_31 : decode cX6_change 31 = .ok (.iconst 5, 1) := by decide +kernel
theorem dX6_change_32 : decode cX6_change 32 = .ok (.invokestatic 115, 3) := by decide +kernel
theorem dX6_change_35 : decode cX6_change 35 = .ok (.ifCond .ne 5, 3) := by decide +kernel
theorem dX6_change_38 : decode cX6_change 38 = .ok (.iconst (-1), 1) := by decide +kernel
theorem dX6_change_39 : decode cX6_change 39 = .ok (.ireturn, 1) := by decide +kernel
theorem dX6_change_40 : decode cX6_change 40 = .ok (.iload_n 1, 1) := by decide +kernel
theorem dX6_change_41 : decode cX6_change 41 = .ok (.iload_n 2, 1) := by decide +kernel
theorem dX6_change_42 : decode cX6_change 42 = .ok (.invokestatic 119, 3) := by decide +kernel
theorem dX6_change_45 : decode cX6_change 45 = .ok (.istore 4, 2) := by decide +kernel
theorem dX6_change_47 : decode cX6_change 47 = .ok (.iload_n 3, 1) := by decide +kernel
theorem dX6_change_48 : decode cX6_change 48 = .ok (.iconst 3, 1) := by decide +kernel
theorem dX6_change_49 : decode cX6_change 49 = .ok (.if_icmp .ne 47, 3) := by decide +kernel
theorem dX6_change_52 : decode cX6_change 52 = .ok (.aload_n 0, 1) := by decide +kernel
theorem dX6_change_53 : decode cX6_change 53 = .ok (.getfield 17, 3) := by decide +kernel
theorem dX6_change_56 : decode cX6_change 56 = .ok (.iload 4, 2) := by decide +kernel
theorem dX6_change_58 : decode cX6_change 58 = .ok (.bipush 6, 2) := by decide +kernel
theorem dX6_change_60 : decode cX6_change 60 = .ok (.iadd, 1) := by decide +kernel
theorem dX6_change_61 : decode cX6_change 61 = .ok (.iaload, 1) := by decide +kernel
theorem dX6_change_62 : decode cX6_change 62 = .ok (.aload_n 0, 1) := by decide +kernel
theorem dX6_change_63 : decode cX6_change 63 = .ok (.getfield 17, 3) := by decide +kernel
theorem dX6_change_66 : decode cX6_change 66 = .ok (.iload 4, 2) := by decide +kernel
theorem dX6_change_68 : decode cX6_change 68 = .ok (.bipush 7, 2) := by decide +kernel
theorem dX6_change_70 : decode cX6_change 70 = .ok (.iadd, 1) := by decide +kernel
theorem dX6_change_71 : decode cX6_change 71 = .ok (.iaload, 1) := by decide +kernel
theorem dX6_change_72 : decode cX6_change 72 = .ok (.iadd, 1) := by decide +kernel
theorem dX6_change_73 : decode cX6_change 73 = .ok (.aload_n 0, 1) := by decide +kernel
theorem dX6_change_74 : decode cX6_change 74 = .ok (.getfield 17, 3) := by decide +kernel
theorem dX6_change_77 : decode cX6_change 77 = .ok (.iload 4, 2) := by decide +kernel
theorem dX6_change_79 : decode cX6_change 79 = .ok (.bipush 8, 2) := by decide +kernel
theorem dX6_change_81 : decode cX6_change 81 = .ok (.iadd, 1) := by decide +kernel
theorem dX6_change_82 : decode cX6_change 82 = .ok (.iaload, 1) := by decide +kernel
theorem dX6_change_83 : decode cX6_change 83 = .ok (.iadd, 1) := by decide +kernel
theorem dX6_change_84 : decode cX6_change 84 = .ok (.aload_n 0, 1) := by decide +kernel
theorem dX6_change_85 : decode cX6_change 85 = .ok (.getfield 17, 3) := by decide +kernel
theorem dX6_change_88 : decode cX6_change 88 = .ok (.iload 4, 2) := by decide +kernel
theorem dX6_change_90 : decode cX6_change 90 = .ok (.bipush 9, 2) := by decide +kernel
theorem dX6_change_92 : decode cX6_change 92 = .ok (.iadd, 1) := by decide +kernel
theorem dX6_change_93 : decode cX6_change 93 = .ok (.iaload, 1) := by decide +kernel
theorem dX6_change_94 : decode cX6_change 94 = .ok (.iadd, 1) := by decide +kernel
theorem dX6_change_95 : decode cX6_change 95 = .ok (.ireturn, 1) := by decide +kernel
theorem dX6_change_96 : decode cX6_change 96 = .ok (.iload_n 3, 1) := by decide +kernel
theorem dX6_change_97 : decode cX6_change 97 = .ok (.iconst 5, 1) := by decide +kernel
theorem dX6_change_98 : decode cX6_change 98 = .ok (.if_icmp .ne 23, 3) := by decide +kernel
theorem dX6_change_101 : decode cX6_change 101 = .ok (.aload_n 0, 1) := by decide +kernel
theorem dX6_change_102 : decode cX6_change 102 = .ok (.invokevirtual 153, 3) := by decide +kernel
theorem dX6_change_105 : decode cX6_change 105 = .ok (.iload_n 2, 1) := by decide +kernel
theorem dX6_change_106 : decode cX6_change 106 = .ok (.aload_n 0, 1) := by decide +kernel
theorem dX6_change_107 : decode cX6_change 107 = .ok (.getfield 33, 3) := by decide +kernel
theorem dX6_change_110 : decode cX6_change 110 = .ok (.iload_n 1, 1) := by decide +kernel
theorem dX6_change_111 : decode cX6_change 111 = .ok (.iaload, 1) := by decide +kernel
theorem dX6_change_112 : decode cX6_change 112 = .ok (.if_icmp .lt 7, 3) := by decide +kernel
theorem dX6_change_115 : decode cX6_change 115 = .ok (.iconst 1, 1) := by decide +kernel
theorem dX6_change_116 : decode cX6_change 116 = .ok (.goto 4, 3) := by decide +kernel
theorem dX6_change_119 : decode cX6_change 119 = .ok (.iconst 0, 1) := by decide +kernel
theorem dX6_change_120 : decode cX6_change 120 = .ok (.ireturn, 1) := by decide +kernel
theorem dX6_change_121 : decode cX6_change 121 = .ok (.iload_n 3, 1) := by decide +kernel
theorem dX6_change_122 : decode cX6_change 122 = .ok (.iconst 2, 1) := by decide +kernel
theorem dX6_change_123 : decode cX6_change 123 = .ok (.if_icmp .ge 15, 3) := by decide +kernel
theorem dX6_change_126 : decode cX6_change 126 = .ok (.aload_n 0, 1) := by decide +kernel
theorem dX6_change_127 : decode cX6_change 127 = .ok (.getfield 17, 3) := by decide +kernel
theorem dX6_change_130 : decode cX6_change 130 = .ok (.iload 4, 2) := by decide +kernel
theorem dX6_change_132 : decode cX6_change 132 = .ok (.iload_n 3, 1) := by decide +kernel
theorem dX6_change_133 : decode cX6_change 133 = .ok (.iadd, 1) := by decide +kernel
theorem dX6_change_134 : decode cX6_change 134 = .ok (.iaload, 1) := by decide +kernel
theorem dX6_change_135 : decode cX6_change 135 = .ok (.goto 29, 3) := by decide +kernel
theorem dX6_change_138 : decode cX6_change 138 = .ok (.iload_n 3, 1) := by decide +kernel
theorem dX6_change_139 : decode cX6_change 139 = .ok (.iconst 2, 1) := by decide +kernel
theorem dX6_change_140 : decode cX6_change 140 = .ok (.if_icmp .ne 15, 3) := by decide +kernel
theorem dX6_change_143 : decode cX6_change 143 = .ok (.aload_n 0, 1) := by decide +kernel
theorem dX6_change_144 : decode cX6_change 144 = .ok (.getfield 17, 3) := by decide +kernel
theorem dX6_change_147 : decode cX6_change 147 = .ok (.iload 4, 2) := by decide +kernel
theorem dX6_change_149 : decode cX6_change 149 = .ok (.iconst 4, 1) := by decide +kernel
theorem dX6_change_150 : decode cX6_change 150 = .ok (.iadd, 1) := by decide +kernel
theorem dX6_change_151 : decode cX6_change 151 = .ok (.iaload, 1) := by decide +kernel
theorem dX6_change_152 : decode cX6_change 152 = .ok (.goto 12, 3) := by decide +kernel
theorem dX6_change_155 : decode cX6_change 155 = .ok (.aload_n 0, 1) := by decide +kernel
theorem dX6_change_156 : decode cX6_change 156 = .ok (.getfield 17, 3) := by decide +kernel
theorem dX6_change_159 : decode cX6_change 159 = .ok (.iload 4, 2) := by decide +kernel
theorem dX6_change_161 : decode cX6_change 161 = .ok (.iconst 5, 1) := by decide +kernel
theorem dX6_change_162 : decode cX6_change 162 = .ok (.iadd, 1) := by decide +kernel
theorem dX6_change_163 : decode cX6_change 163 = .ok (.iaload, 1) := by decide +kernel
theorem dX6_change_164 : decode cX6_change 164 = .ok (.ireturn, 1) := by decide +kernel
theorem dX6_thing_0 : decode cX6_thing 0 = .ok (.aload_n 0, 1) := by decide +kernel
theorem dX6_thing_1 : decode cX6_thing 1 = .ok (.iconst 0, 1) := by decide +kernel
theorem dX6_thing_2 : decode cX6_thing 2 = .ok (.putfield 106, 3) := by decide +kernel
theorem dX6_thing_5 : decode cX6_thing 5 = .ok (.aload_n 0, 1) := by decide +kernel
theorem dX6_thing_6 : decode cX6_thing 6 = .ok (.iload_n 1, 1) := by decide +kernel
theorem dX6_thing_7 : decode cX6_thing 7 = .ok (.invokevirtual 179, 3) := by decide +kernel
theorem dX6_thing_10 : decode cX6_thing 10 = .ok (.ifCond .eq 28, 3) := by decide +kernel
theorem dX6_thing_13 : decode cX6_thing 13 = .ok (.iload_n 2, 1) := by decide +kernel
theorem dX6_thing_14 : decode cX6_thing 14 = .ok (.invokestatic 182, 3) := by decide +kernel
theorem dX6_thing_17 : decode cX6_thing 17 = .ok (.ifCond .eq 21, 3) := by decide +kernel
theorem dX6_thing_20 : decode cX6_thing 20 = .ok (.aload_n 0, 1) := by decide +kernel
theorem dX6_thing_21 : decode cX6_thing 21 = .ok (.iload_n 3, 1) := by decide +kernel
theorem dX6_thing_22 : decode cX6_thing 22 = .ok (.invokevirtual 224, 3) := by decide +kernel
theorem dX6_thing_25 : decode cX6_thing 25 = .ok (.ifCond .eq 13, 3) := by decide +kernel
theorem dX6_thing_28 : decode cX6_thing 28 = .ok (.iload 4, 2) := by decide +kernel
theorem dX6_thing_30 : decode cX6_thing 30 = .ok (.iconst 0, 1) := by decide +kernel
theorem dX6_thing_31 : decode cX6_thing 31 = .ok (.iconst 3, 1) := by decide +kernel
theorem dX6_thing_32 : decode cX6_thing 32 = .ok (.invokestatic 115, 3) := by decide +kernel
theorem dX6_thing_35 : decode cX6_thing 35 = .ok (.ifCond .ne 5, 3) := by decide +kernel
theorem dX6_thing_38 : decode cX6_thing 38 = .ok (.iconst (-1), 1) := by decide +kernel
theorem dX6_thing_39 : decode cX6_thing 39 = .ok (.ireturn, 1) := by decide +kernel
theorem dX6_thing_40 : decode cX6_thing 40 = .ok (.aload_n 0, 1) := by decide +kernel
theorem dX6_thing_41 : decode cX6_thing 41 = .ok (.iload_n 1, 1) := by decide +kernel
theorem dX6_thing_42 : decode cX6_thing 42 = .ok (.iload_n 3, 1) := by decide +kernel
theorem dX6_thing_43 : decode cX6_thing 43 = .ok (.invokevirtual 227, 3) := by decide +kernel
theorem dX6_thing_46 : decode cX6_thing 46 = .ok (.aload_n 0, 1) := by decide +kernel
theorem dX6_thing_47 : decode cX6_thing 47 = .ok (.getfield 46, 3) := by decide +kernel
theorem dX6_thing_50 : decode cX6_thing 50 = .ok (.iload_n 2, 1) := by decide +kernel
theorem dX6_thing_51 : decode cX6_thing 51 = .ok (.baload, 1) := by decide +kernel
theorem dX6_thing_52 : decode cX6_thing 52 = .ok (.ifCond .ne 16, 3) := by decide +kernel
theorem dX6_thing_55 : decode cX6_thing 55 = .ok (.iload 4, 2) := by decide +kernel
theorem dX6_thing_57 : decode cX6_thing 57 = .ok (.ifCond .ne 8, 3) := by decide +kernel
theorem dX6_thing_60 : decode cX6_thing 60 = .ok (.bipush (-9), 2) := by decide +kernel
end
section
theorem dX6_thing_62 : decode cX6_thing 62 = .ok (.goto 5, 3) := by decide +kernel
theorem dX6_thing_65 : decode cX6_thing 65 = .ok (.bipush (-2), 2) := by decide +kernel
theorem dX6_thing_67 : decode cX6_thing 67 = .ok (.ireturn, 1) := by decide +kernel
theorem dX6_thing_68 : decode cX6_thing 68 = .ok (.iload 4, 2) := by decide +kernel
theorem dX6_thing_70 : decode cX6_thing 70 = .ok (.ifCond .ne 26, 3) := by decide +kernel
theorem dX6_thing_73 : decode cX6_thing 73 = .ok (.aload_n 0, 1) := by decide +kernel
theorem dX6_thing_74 : decode cX6_thing 74 = .ok (.getfield 64, 3) := by decide +kernel
theorem dX6_thing_77 : decode cX6_thing 77 = .ok (.iload_n 2, 1) := by decide +kernel
theorem dX6_thing_78 : decode cX6_thing 78 = .ok (.iaload, 1) := by decide +kernel
theorem dX6_thing_79 : decode cX6_thing 79 = .ok (.iconst 1, 1) := by decide +kernel
theorem dX6_thing_80 : decode cX6_thing 80 = .ok (.if_icmp .le 7, 3) := by decide +kernel
theorem dX6_thing_83 : decode cX6_thing 83 = .ok (.iconst 5, 1) := by decide +kernel
theorem dX6_thing_84 : decode cX6_thing 84 = .ok (.goto 57, 3) := by decide +kernel
theorem dX6_thing_87 : decode cX6_thing 87 = .ok (.aload_n 0, 1) := by decide +kernel
theorem dX6_thing_88 : decode cX6_thing 88 = .ok (.getfield 49, 3) := by decide +kernel
theorem dX6_thing_91 : decode cX6_thing 91 = .ok (.iload_n 2, 1) := by decide +kernel
theorem dX6_thing_92 : decode cX6_thing 92 = .ok (.iaload, 1) := by decide +kernel
theorem dX6_thing_93 : decode cX6_thing 93 = .ok (.goto 48, 3) := by decide +kernel
theorem dX6_thing_96 : decode cX6_thing 96 = .ok (.iload 4, 2) := by decide +kernel
theorem dX6_thing_98 : decode cX6_thing 98 = .ok (.iconst 1, 1) := by decide +kernel
theorem dX6_thing_99 : decode cX6_thing 99 = .ok (.if_icmp .ne 21, 3) := by decide +kernel
theorem dX6_thing_102 : decode cX6_thing 102 = .ok (.iload_n 2, 1) := by decide +kernel
theorem dX6_thing_103 : decode cX6_thing 103 = .ok (.ifCond .ne 8, 3) := by decide +kernel
theorem dX6_thing_106 : decode cX6_thing 106 = .ok (.bipush (-9), 2) := by decide +kernel
theorem dX6_thing_108 : decode cX6_thing 108 = .ok (.goto 33, 3) := by decide +kernel
theorem dX6_thing_111 : decode cX6_thing 111 = .ok (.aload_n 0, 1) := by decide +kernel
theorem dX6_thing_112 : decode cX6_thing 112 = .ok (.getfield 52, 3) := by decide +kernel
theorem dX6_thing_115 : decode cX6_thing 115 = .ok (.iload_n 2, 1) := by decide +kernel
theorem dX6_thing_116 : decode cX6_thing 116 = .ok (.iaload, 1) := by decide +kernel
theorem dX6_thing_117 : decode cX6_thing 117 = .ok (.goto 24, 3) := by decide +kernel
theorem dX6_thing_120 : decode cX6_thing 120 = .ok (.iload 4, 2) := by decide +kernel
theorem dX6_thing_122 : decode cX6_thing 122 = .ok (.iconst 2, 1) := by decide +kernel
theorem dX6_thing_123 : decode cX6_thing 123 = .ok (.if_icmp .ne 12, 3) := by decide +kernel
theorem dX6_thing_126 : decode cX6_thing 126 = .ok (.aload_n 0, 1) := by decide +kernel
theorem dX6_thing_127 : decode cX6_thing 127 = .ok (.getfield 61, 3) := by decide +kernel
theorem dX6_thing_130 : decode cX6_thing 130 = .ok (.iload_n 2, 1) := by decide +kernel
theorem dX6_thing_131 : decode cX6_thing 131 = .ok (.iaload, 1) := by decide +kernel
theorem dX6_thing_132 : decode cX6_thing 132 = .ok (.goto 9, 3) := by decide +kernel
theorem dX6_thing_135 : decode cX6_thing 135 = .ok (.aload_n 0, 1) := by decide +kernel
theorem dX6_thing_136 : decode cX6_thing 136 = .ok (.getfield 64, 3) := by decide +kernel
theorem dX6_thing_139 : decode cX6_thing 139 = .ok (.iload_n 2, 1) := by decide +kernel
theorem dX6_thing_140 : decode cX6_thing 140 = .ok (.iaload, 1) := by decide +kernel
theorem dX6_thing_141 : decode cX6_thing 141 = .ok (.ireturn, 1) := by decide +kernel
theorem dX6_sizeOf_0 : decode cX6_sizeOf 0 = .ok (.aload_n 0, 1) := by decide +kernel
theorem dX6_sizeOf_1 : decode cX6_sizeOf 1 = .ok (.getfield 17, 3) := by decide +kernel
theorem dX6_sizeOf_4 : decode cX6_sizeOf 4 = .ok (.bipush 12, 2) := by decide +kernel
theorem dX6_sizeOf_6 : decode cX6_sizeOf 6 = .ok (.iload_n 1, 1) := by decide +kernel
theorem dX6_sizeOf_7 : decode cX6_sizeOf 7 = .ok (.imul, 1) := by decide +kernel
theorem dX6_sizeOf_8 : decode cX6_sizeOf 8 = .ok (.iconst 3, 1) := by decide +kernel
theorem dX6_sizeOf_9 : decode cX6_sizeOf 9 = .ok (.iadd, 1) := by decide +kernel
theorem dX6_sizeOf_10 : decode cX6_sizeOf 10 = .ok (.iaload, 1) := by decide +kernel
theorem dX6_sizeOf_11 : decode cX6_sizeOf 11 = .ok (.ireturn, 1) := by decide +kernel
theorem dX6_bytes_0 : decode cX6_bytes 0 = .ok (.aload_n 0, 1) := by decide +kernel
theorem dX6_bytes_1 : decode cX6_bytes 1 = .ok (.iconst 0, 1) := by decide +kernel
theorem dX6_bytes_2 : decode cX6_bytes 2 = .ok (.putfield 106, 3) := by decide +kernel
theorem dX6_bytes_5 : decode cX6_bytes 5 = .ok (.aload_n 0, 1) := by decide +kernel
theorem dX6_bytes_6 : decode cX6_bytes 6 = .ok (.iload_n 1, 1) := by decide +kernel
theorem dX6_bytes_7 : decode cX6_bytes 7 = .ok (.invokevirtual 179, 3) := by decide +kernel
theorem dX6_bytes_10 : decode cX6_bytes 10 = .ok (.ifCond .eq 10, 3) := by decide +kernel
theorem dX6_bytes_13 : decode cX6_bytes 13 = .ok (.iload_n 2, 1) := by decide +kernel
theorem dX6_bytes_14 : decode cX6_bytes 14 = .ok (.invokestatic 182, 3) := by decide +kernel
theorem dX6_bytes_17 : decode cX6_bytes 17 = .ok (.ifCond .ne 5, 3) := by decide +kernel
theorem dX6_bytes_20 : decode cX6_bytes 20 = .ok (.iconst (-1), 1) := by decide +kernel
theorem dX6_bytes_21 : decode cX6_bytes 21 = .ok (.ireturn, 1) := by decide +kernel
theorem dX6_bytes_22 : decode cX6_bytes 22 = .ok (.aload_n 0, 1) := by decide +kernel
theorem dX6_bytes_23 : decode cX6_bytes 23 = .ok (.iload_n 1, 1) := by decide +kernel
theorem dX6_bytes_24 : decode cX6_bytes 24 = .ok (.invokevirtual 176, 3) := by decide +kernel
theorem dX6_bytes_27 : decode cX6_bytes 27 = .ok (.aload_n 0, 1) := by decide +kernel
theorem dX6_bytes_28 : decode cX6_bytes 28 = .ok (.iload_n 2, 1) := by decide +kernel
theorem dX6_bytes_29 : decode cX6_bytes 29 = .ok (.invokevirtual 211, 3) := by decide +kernel
theorem dX6_bytes_32 : decode cX6_bytes 32 = .ok (.ifCond .ne 6, 3) := by decide +kernel
theorem dX6_bytes_35 : decode cX6_bytes 35 = .ok (.bipush (-2), 2) := by decide +kernel
theorem dX6_bytes_37 : decode cX6_bytes 37 = .ok (.ireturn, 1) := by decide +kernel
theorem dX6_bytes_38 : decode cX6_bytes 38 = .ok (.iload_n 3, 1) := by decide +kernel
theorem dX6_bytes_39 : decode cX6_bytes 39 = .ok (.iconst 0, 1) := by decide +kernel
theorem dX6_bytes_40 : decode cX6_bytes 40 = .ok (.aload_n 0, 1) := by decide +kernel
theorem dX6_bytes_41 : decode cX6_bytes 41 = .ok (.getfield 64, 3) := by decide +kernel
theorem dX6_bytes_44 : decode cX6_bytes 44 = .ok (.iload_n 2, 1) := by decide +kernel
theorem dX6_bytes_45 : decode cX6_bytes 45 = .ok (.iaload, 1) := by decide +kernel
theorem dX6_bytes_46 : decode cX6_bytes 46 = .ok (.iconst 1, 1) := by decide +kernel
theorem dX6_bytes_47 : decode cX6_bytes 47 = .ok (.isub, 1) := by decide +kernel
theorem dX6_bytes_48 : decode cX6_bytes 48 = .ok (.invokestatic 115, 3) := by decide +kernel
theorem dX6_bytes_51 : decode cX6_bytes 51 = .ok (.ifCond .ne 5, 3) := by decide +kernel
theorem dX6_bytes_54 : decode cX6_bytes 54 = .ok (.iconst (-1), 1) := by decide +kernel
theorem dX6_bytes_55 : decode cX6_bytes 55 = .ok (.ireturn, 1) := by decide +kernel
theorem dX6_bytes_56 : decode cX6_bytes 56 = .ok (.aload_n 0, 1) := by decide +kernel
theorem dX6_bytes_57 : decode cX6_bytes 57 = .ok (.getfield 67, 3) := by decide +kernel
theorem dX6_bytes_60 : decode cX6_bytes 60 = .ok (.bipush 16, 2) := by decide +kernel
theorem dX6_bytes_62 : decode cX6_bytes 62 = .ok (.iload_n 2, 1) := by decide +kernel
theorem dX6_bytes_63 : decode cX6_bytes 63 = .ok (.imul, 1) := by decide +kernel
theorem dX6_bytes_64 : decode cX6_bytes 64 = .ok (.iload_n 3, 1) := by decide +kernel
theorem dX6_bytes_65 : decode cX6_bytes 65 = .ok (.iadd, 1) := by decide +kernel
theorem dX6_bytes_66 : decode cX6_bytes 66 = .ok (.iaload, 1) := by decide +kernel
theorem dX6_bytes_67 : decode cX6_bytes 67 = .ok (.istore 5, 2) := by decide +kernel
theorem dX6_bytes_69 : decode cX6_bytes 69 = .ok (.iload 4, 2) := by decide +kernel
theorem dX6_bytes_71 : decode cX6_bytes 71 = .ok (.iconst (-1), 1) := by decide +kernel
theorem dX6_bytes_72 : decode cX6_bytes 72 = .ok (.aload_n 0, 1) := by decide +kernel
theorem dX6_bytes_73 : decode cX6_bytes 73 = .ok (.iload 5, 2) := by decide +kernel
theorem dX6_bytes_75 : decode cX6_bytes 75 = .ok (.invokevirtual 230, 3) := by decide +kernel
theorem dX6_bytes_78 : decode cX6_bytes 78 = .ok (.iconst 1, 1) := by decide +kernel
theorem dX6_bytes_79 : decode cX6_bytes 79 = .ok (.isub, 1) := by decide +kernel
theorem dX6_bytes_80 : decode cX6_bytes 80 = .ok (.invokestatic 115, 3) := by decide +kernel
theorem dX6_bytes_83 : decode cX6_bytes 83 = .ok (.ifCond .ne 5, 3) := by decide +kernel
theorem dX6_bytes_86 : decode cX6_bytes 86 = .ok (.iconst (-1), 1) := by decide +kernel
theorem dX6_bytes_87 : decode cX6_bytes 87 = .ok (.ireturn, 1) := by decide +kernel
theorem dX6_bytes_88 : decode cX6_bytes 88 = .ok (.iload 4, 2) := by decide +kernel
theorem dX6_bytes_90 : decode cX6_bytes 90 = .ok (.ifCond .ge 12, 3) := by decide +kernel
theorem dX6_bytes_93 : decode cX6_bytes 93 = .ok (.aload_n 0, 1) := by decide +kernel
theorem dX6_bytes_94 : decode cX6_bytes 94 = .ok (.iload 5, 2) := by decide +kernel
theorem dX6_bytes_96 : decode cX6_bytes 96 = .ok (.invokevirtual 230, 3) := by decide +kernel
theorem dX6_bytes_99 : decode cX6_bytes 99 = .ok (.goto 21, 3) := by decide +kernel
theorem dX6_bytes_102 : decode cX6_bytes 102 = .ok (.aload_n 0, 1) := by decide +kernel
theorem dX6_bytes_103 : decode cX6_bytes 103 = .ok (.getfield 20, 3) := by decide +kernel
theorem dX6_bytes_106 : decode cX6_bytes 106 = .ok (.iload 5, 2) := by decide +kernel
theorem dX6_bytes_108 : decode cX6_bytes 108 = .ok (.laload, 1) := by decide +kernel
theorem dX6_bytes_109 : decode cX6_bytes 109 = .ok (.aload_n 0, 1) := by decide +kernel
theorem dX6_bytes_110 : decode cX6_bytes 110 = .ok (.iload 5, 2) := by decide +kernel
theorem dX6_bytes_112 : decode cX6_bytes 112 = .ok (.invokevirtual 230, 3) := by decide +kernel
theorem dX6_bytes_115 : decode cX6_bytes 115 = .ok (.iload 4, 2) := by decide +kernel
theorem dX6_bytes_117 : decode cX6_bytes 117 = .ok (.invokestatic 194, 3) := by decide +kernel
theorem dX6_bytes_120 : decode cX6_bytes 120 = .ok (.ireturn, 1) := by decide +kernel
theorem dX6_held_0 : decode cX6_held 0 = .ok (.iconst 0, 1) := by decide +kernel
theorem dX6_held_1 : decode cX6_held 1 = .ok (.istore_n 2, 1) := by decide +kernel
theorem dX6_held_2 : decode cX6_held 2 = .ok (.iconst 0, 1) := by decide +kernel
theorem dX6_held_3 : decode cX6_held 3 = .ok (.istore_n 3, 1) := by decide +kernel
theorem dX6_held_4 : decode cX6_held 4 = .ok (.iload_n 3, 1) := by decide +kernel
theorem dX6_held_5 : decode cX6_held 5 = .ok (.aload_n 0, 1) := by decide +kernel
theorem dX6_held_6 : decode cX6_held 6 = .ok (.getfield 64, 3) := by decide +kernel
theorem dX6_held_9 : decode cX6_held 9 = .ok (.iload_n 1, 1) := by decide +kernel
theorem dX6_held_10 : decode cX6_held 10 = .ok (.iaload, 1) := by decide +kernel
theorem dX6_held_11 : decode cX6_held 11 = .ok (.if_icmp .ge 27, 3) := by decide +kernel
theorem dX6_held_14 : decode cX6_held 14 = .ok (.iload_n 2, 1) := by decide +kernel
theorem dX6_held_15 : decode cX6_held 15 = .ok (.aload_n 0, 1) := by decide +kernel
theorem dX6_held_16 : decode cX6_held 16 = .ok (.aload_n 0, 1) := by decide +kernel
theorem dX6_held_17 : decode cX6_held 17 = .ok (.getfield 67, 3) := by decide +kernel
theorem dX6_held_20 : decode cX6_held 20 = .ok (.bipush 16, 2) := by decide +kernel
theorem dX6_held_22 : decode cX6_held 22 = .ok (.iload_n 1, 1) := by decide +kernel
theorem dX6_held_23 : decode cX6_held 23 = .ok (.imul, 1) := by decide +kernel
theorem dX6_held_24 : decode cX6_held 24 = .ok (.iload_n 3, 1) := by decide +kernel
theorem dX6_held_25 : decode cX6_held 25 = .ok (.iadd, 1) := by decide +kernel
theorem dX6_held_26 : decode cX6_held 26 = .ok (.iaload, 1) := by decide +kernel
theorem dX6_held_27 : decode cX6_held 27 = .ok (.invokevirtual 230, 3) := by decide +kernel
theorem dX6_held_30 : decode cX6_held 30 = .ok (.iadd, 1) := by decide +kernel
theorem dX6_held_31 : decode cX6_held 31 = .ok (.istore_n 2, 1) := by decide +kernel
theorem dX6_held_32 : decode cX6_held 32 = .ok (.iinc 3 1, 3) := by decide +kernel
theorem dX6_held_35 : decode cX6_held 35 = .ok (.goto (-31), 3) := by decide +kernel
theorem dX6_held_38 : decode cX6_held 38 = .ok (.iload_n 2, 1) := by decide +kernel
theorem dX6_held_39 : decode cX6_held 39 = .ok (.ireturn, 1) := by decide +kernel
theorem dX6_inside_0 : decode cX6_inside 0 = .ok (.iconst 0, 1) := by decide +kernel
theorem dX6_inside_1 : decode cX6_inside 1 = .ok (.istore_n 2, 1) := by decide +kernel
theorem dX6_inside_2 : decode cX6_inside 2 = .ok (.iconst 1, 1) := by decide +kernel
theorem dX6_inside_3 : decode cX6_inside 3 = .ok (.istore_n 3, 1) := by decide +kernel
theorem dX6_inside_4 : decode cX6_inside 4 = .ok (.iload_n 3, 1) := by decide +kernel
theorem dX6_inside_5 : decode cX6_inside 5 = .ok (.bipush 12, 2) := by decide +kernel
theorem dX6_inside_7 : decode cX6_inside 7 = .ok (.if_icmp .ge 36, 3) := by decide +kernel
theorem dX6_inside_10 : decode cX6_inside 10 = .ok (.iload_n 2, 1) := by decide +kernel
theorem dX6_inside_11 : decode cX6_inside 11 = .ok (.aload_n 0, 1) := by decide +kernel
theorem dX6_inside_12 : decode cX6_inside 12 = .ok (.getfield 46, 3) := by decide +kernel
theorem dX6_inside_15 : decode cX6_inside 15 = .ok (.iload_n 3, 1) := by decide +kernel
theorem dX6_inside_16 : decode cX6_inside 16 = .ok (.baload, 1) := by decide +kernel
theorem dX6_inside_17 : decode cX6_inside 17 = .ok (.ifCond .eq 17, 3) := by decide +kernel
theorem dX6_inside_20 : decode cX6_inside 20 = .ok (.aload_n 0, 1) := by decide +kernel
theorem dX6_inside_21 : decode cX6_inside 21 = .ok (.getfield 52, 3) := by decide +kernel
theorem dX6_inside_24 : decode cX6_inside 24 = .ok (.iload_n 3, 1) := by decide +kernel
theorem dX6_inside_25 : decode cX6_inside 25 = .ok (.iaload, 1) := by decide +kernel
theorem dX6_inside_26 : decode cX6_inside 26 = .ok (.iload_n 1, 1) := by decide +kernel
theorem dX6_inside_27 : decode cX6_inside 27 = .ok (.if_icmp .ne 7, 3) := by decide +kernel
theorem dX6_inside_30 : decode cX6_inside 30 = .ok (.iconst 1, 1) := by decide +kernel
theorem dX6_inside_31 : decode cX6_inside 31 = .ok (.goto 4, 3) := by decide +kernel
theorem dX6_inside_34 : decode cX6_inside 34 = .ok (.iconst 0, 1) := by decide +kernel
theorem dX6_inside_35 : decode cX6_inside 35 = .ok (.iadd, 1) := by decide +kernel
theorem dX6_inside_36 : decode cX6_inside 36 = .ok (.istore_n 2, 1) := by decide +kernel
theorem dX6_inside_37 : decode cX6_inside 37 = .ok (.iinc 3 1, 3) := by decide +kernel
theorem dX6_inside_40 : decode cX6_inside 40 = .ok (.goto (-36), 3) := by decide +kernel
theorem dX6_inside_43 : decode cX6_inside 43 = .ok (.iload_n 2, 1) := by decide +kernel
theorem dX6_inside_44 : decode cX6_inside 44 = .ok (.ireturn, 1) := by decide +kernel
theorem dX6_bulk_0 : decode cX6_bulk 0 = .ok (.aload_n 0, 1) := by decide +kernel
theorem dX6_bulk_1 : decode cX6_bulk 1 = .ok (.iconst 0, 1) := by decide +kernel
theorem dX6_bulk_2 : decode cX6_bulk 2 = .ok (.putfield 106, 3) := by decide +kernel
theorem dX6_bulk_5 : decode cX6_bulk 5 = .ok (.iload_n 1, 1) := by decide +kernel
theorem dX6_bulk_6 : decode cX6_bulk 6 = .ok (.iconst 0, 1) := by decide +kernel
theorem dX6_bulk_7 : decode cX6_bulk 7 = .ok (.iconst 5, 1) := by decide +kernel
theorem dX6_bulk_8 : decode cX6_bulk 8 = .ok (.invokestatic 115, 3) := by decide +kernel
theorem dX6_bulk_11 : decode cX6_bulk 11 = .ok (.ifCond .eq 18, 3) := by decide +kernel
theorem dX6_bulk_14 : decode cX6_bulk 14 = .ok (.aload_n 0, 1) := by decide +kernel
theorem dX6_bulk_15 : decode cX6_bulk 15 = .ok (.iload_n 2, 1) := by decide +kernel
theorem dX6_bulk_16 : decode cX6_bulk 16 = .ok (.invokevirtual 179, 3) := by decide +kernel
theorem dX6_bulk_19 : decode cX6_bulk 19 = .ok (.ifCond .eq 10, 3) := by decide +kernel
theorem dX6_bulk_22 : decode cX6_bulk 22 = .ok (.iload_n 3, 1) := by decide +kernel
theorem dX6_bulk_23 : decode cX6_bulk 23 = .ok (.invokestatic 182, 3) := by decide +kernel
theorem dX6_bulk_26 : decode cX6_bulk 26 = .ok (.ifCond .ne 5, 3) := by decide +kernel
theorem dX6_bulk_29 : decode cX6_bulk 29 = .ok (.iconst (-1), 1) := by decide +kernel
theorem dX6_bulk_30 : decode cX6_bulk 30 = .ok (.ireturn, 1) := by decide +kernel
theorem dX6_bulk_31 : decode cX6_bulk 31 = .ok (.aload_n 0, 1) := by decide +kernel
theorem dX6_bulk_32 : decode cX6_bulk 32 = .ok (.iload_n 2, 1) := by decide +kernel
theorem dX6_bulk_33 : decode cX6_bulk 33 = .ok (.invokevirtual 176, 3) := by decide +kernel
theorem dX6_bulk_36 : decode cX6_bulk 36 = .ok (.aload_n 0, 1) := by decide +kernel
theorem dX6_bulk_37 : decode cX6_bulk 37 = .ok (.getfield 46, 3) := by decide +kernel
theorem dX6_bulk_40 : decode cX6_bulk 40 = .ok (.iload_n 3, 1) := by decide +kernel
theorem dX6_bulk_41 : decode cX6_bulk 41 = .ok (.baload, 1) := by decide +kernel
theorem dX6_bulk_42 : decode cX6_bulk 42 = .ok (.ifCond .ne 6, 3) := by decide +kernel
theorem dX6_bulk_45 : decode cX6_bulk 45 = .ok (.bipush (-2), 2) := by decide +kernel
theorem dX6_bulk_47 : decode cX6_bulk 47 = .ok (.ireturn, 1) := by decide +kernel
theorem dX6_bulk_48 : decode cX6_bulk 48 = .ok (.iconst 4, 1) := by decide +kernel
theorem dX6_bulk_49 : decode cX6_bulk 49 = .ok (.aload_n 0, 1) := by decide +kernel
theorem dX6_bulk_50 : decode cX6_bulk 50 = .ok (.getfield 61, 3) := by decide +kernel
theorem dX6_bulk_53 : decode cX6_bulk 53 = .ok (.iload_n 3, 1) := by decide +kernel
theorem dX6_bulk_54 : decode cX6_bulk 54 = .ok (.iaload, 1) := by decide +kernel
theorem dX6_bulk_55 : decode cX6_bulk 55 = .ok (.iadd, 1) := by decide +kernel
theorem dX6_bulk_56 : decode cX6_bulk 56 = .ok (.istore 4, 2) := by decide +kernel
theorem dX6_bulk_58 : decode cX6_bulk 58 = .ok (.iload 4, 2) := by decide +kernel
theorem dX6_bulk_60 : decode cX6_bulk 60 = .ok (.aload_n 0, 1) := by decide +kernel
theorem dX6_bulk_61 : decode cX6_bulk 61 = .ok (.iload_n 3, 1) := by decide +kernel
theorem dX6_bulk_62 : decode cX6_bulk 62 = .ok (.invokevirtual 233, 3) := by decide +kernel
theorem dX6_bulk_65 : decode cX6_bulk 65 = .ok (.iadd, 1) := by decide +kernel
theorem dX6_bulk_66 : decode cX6_bulk 66 = .ok (.istore 5, 2) := by decide +kernel
theorem dX6_bulk_68 : decode cX6_bulk 68 = .ok (.aload_n 0, 1) := by decide +kernel
theorem dX6_bulk_69 : decode cX6_bulk 69 = .ok (.dup, 1) := by decide +kernel
theorem dX6_bulk_70 : decode cX6_bulk 70 = .ok (.getfield 236, 3) := by decide +kernel
theorem dX6_bulk_73 : decode cX6_bulk 73 = .ok (.iload_n 1, 1) := by decide +kernel
theorem dX6_bulk_74 : decode cX6_bulk 74 = .ok (.ifCond .ne 7, 3) := by decide +kernel
theorem dX6_bulk_77 : decode cX6_bulk 77 = .ok (.lconst 1, 1) := by decide +kernel
theorem dX6_bulk_78 : decode cX6_bulk 78 = .ok (.goto 50, 3) := by decide +kernel
theorem dX6_bulk_81 : decode cX6_bulk 81 = .ok (.iload_n 1, 1) := by decide +kernel
theorem dX6_bulk_82 : decode cX6_bulk 82 = .ok (.iconst 1, 1) := by decide +kernel
theorem dX6_bulk_83 : decode cX6_bulk 83 = .ok (.if_icmp .ne 9, 3) := by decide +kernel
theorem dX6_bulk_86 : decode cX6_bulk 86 = .ok (.ldc2_w 240, 3) := by decide +kernel
theorem dX6_bulk_89 : decode cX6_bulk 89 = .ok (.goto 39, 3) := by decide +kernel
theorem dX6_bulk_92 : decode cX6_bulk 92 = .ok (.iload_n 1, 1) := by decide +kernel
theorem dX6_bulk_93 : decode cX6_bulk 93 = .ok (.iconst 2, 1) := by decide +kernel
theorem dX6_bulk_94 : decode cX6_bulk 94 = .ok (.if_icmp .ne 9, 3) := by decide +kernel
theorem dX6_bulk_97 : decode cX6_bulk 97 = .ok (.ldc2_w 242, 3) := by decide +kernel
theorem dX6_bulk_100 : decode cX6_bulk 100 = .ok (.goto 28, 3) := by decide +kernel
theorem dX6_bulk_103 : decode cX6_bulk 103 = .ok (.iload_n 1, 1) := by decide +kernel
theorem dX6_bulk_104 : decode cX6_bulk 104 = .ok (.iconst 3, 1) := by decide +kernel
theorem dX6_bulk_105 : decode cX6_bulk 105 = .ok (.if_icmp .ne 9, 3) := by decide +kernel
theorem dX6_bulk_108 : decode cX6_bulk 108 = .ok (.ldc2_w 244, 3) := by decide +kernel
theorem dX6_bulk_111 : decode cX6_bulk 111 = .ok (.goto 17, 3) := by decide +kernel
theorem dX6_bulk_114 : decode cX6_bulk 114 = .ok (.iload_n 1, 1) := by decide +kernel
theorem dX6_bulk_115 : decode cX6_bulk 115 = .ok (.iconst 4, 1) := by decide +kernel
theorem dX6_bulk_116 : decode cX6_bulk 116 = .ok (.if_icmp .ne 9, 3) := by decide +kernel
theorem dX6_bulk_119 : decode cX6_bulk 119 = .ok (.ldc2_w 246, 3) := by decide +kernel
theorem dX6_bulk_122 : decode cX6_bulk 122 = .ok (.goto 6, 3) := by decide +kernel
theorem dX6_bulk_125 : decode cX6_bulk 125 = .ok (.ldc2_w 248, 3) := by decide +kernel
theorem dX6_bulk_128 : decode cX6_bulk 128 = .ok (.ladd, 1) := by decide +kernel
theorem dX6_bulk_129 : decode cX6_bulk 129 = .ok (.putfield 236, 3) := by decide +kernel
theorem dX6_bulk_132 : decode cX6_bulk 132 = .ok (.iload_n 1, 1) := by decide +kernel
theorem dX6_bulk_133 : decode cX6_bulk 133 = .ok (.ifCond .ne 8, 3) := by decide +kernel
theorem dX6_bulk_136 : decode cX6_bulk 136 = .ok (.iload 4, 2) := by decide +kernel
theorem dX6_bulk_138 : decode cX6_bulk 138 = .ok (.goto 72, 3) := by decide +kernel
theorem dX6_bulk_141 : decode cX6_bulk 141 = .ok (.iload_n 1, 1) := by decide +kernel
theorem dX6_bulk_142 : decode cX6_bulk 142 = .ok (.iconst 1, 1) := by decide +kernel
theorem dX6_bulk_143 : decode cX6_bulk 143 = .ok (.if_icmp .ne 8, 3) := by decide +kernel
theorem dX6_bulk_146 : decode cX6_bulk 146 = .ok (.iload 5, 2) := by decide +kernel
theorem dX6_bulk_148 : decode cX6_bulk 148 = .ok (.goto 62, 3) := by decide +kernel
theorem dX6_bulk_151 : decode cX6_bulk 151 = .ok (.iload_n 1, 1) := by decide +kernel
theorem dX6_bulk_152 : decode cX6_bulk 152 = .ok (.iconst 2, 1) := by decide +kernel
theorem dX6_bulk_153 : decode cX6_bulk 153 = .ok (.if_icmp .ne 16, 3) := by decide +kernel
theorem dX6_bulk_156 : decode cX6_bulk 156 = .ok (.iload 4, 2) := by decide +kernel
theorem dX6_bulk_158 : decode cX6_bulk 158 = .ok (.iconst 3, 1) := by decide +kernel
theorem dX6_bulk_159 : decode cX6_bulk 159 = .ok (.aload_n 0, 1) := by decide +kernel
theorem dX6_bulk_160 : decode cX6_bulk 160 = .ok (.iload_n 3, 1) := by decide +kernel
theorem dX6_bulk_161 : decode cX6_bulk 161 = .ok (.invokevirtual 250, 3) := by decide +kernel
theorem dX6_bulk_164 : decode cX6_bulk 164 = .ok (.imul, 1) := by decide +kernel
theorem dX6_bulk_165 : decode cX6_bulk 165 = .ok (.iadd, 1) := by decide +kernel
theorem dX6_bulk_166 : decode cX6_bulk 166 = .ok (.goto 44, 3) := by decide +kernel
theorem dX6_bulk_169 : decode cX6_bulk 169 = .ok (.iload_n 1, 1) := by decide +kernel
theorem dX6_bulk_170 : decode cX6_bulk 170 = .ok (.iconst 3, 1) := by decide +kernel
theorem dX6_bulk_171 : decode cX6_bulk 171 = .ok (.if_icmp .ne 10, 3) := by decide +kernel
theorem dX6_bulk_174 : decode cX6_bulk 174 = .ok (.iload 4, 2) := by decide +kernel
theorem dX6_bulk_176 : decode cX6_bulk 176 = .ok (.iconst 2, 1) := by decide +kernel
theorem dX6_bulk_177 : decode cX6_bulk 177 = .ok (.idiv, 1) := by decide +kernel
theorem dX6_bulk_178 : decode cX6_bulk 178 = .ok (.goto 32, 3) := by decide +kernel
theorem dX6_bulk_181 : decode cX6_bulk 181 = .ok (.iload_n 1, 1) := by decide +kernel
theorem dX6_bulk_182 : decode cX6_bulk 182 = .ok (.iconst 4, 1) := by decide +kernel
theorem dX6_bulk_183 : decode cX6_bulk 183 = .ok (.if_icmp .ne 16, 3) := by decide +kernel
theorem dX6_bulk_186 : decode cX6_bulk 186 = .ok (.iload 5, 2) := by decide +kernel
theorem dX6_bulk_188 : decode cX6_bulk 188 = .ok (.aload_n 0, 1) := by decide +kernel
theorem dX6_bulk_189 : decode cX6_bulk 189 = .ok (.iload_n 3, 1) := by decide +kernel
theorem dX6_bulk_190 : decode cX6_bulk 190 = .ok (.invokevirtual 233, 3) := by decide +kernel
theorem dX6_bulk_193 : decode cX6_bulk 193 = .ok (.iconst 2, 1) := by decide +kernel
theorem dX6_bulk_194 : decode cX6_bulk 194 = .ok (.idiv, 1) := by decide +kernel
theorem dX6_bulk_195 : decode cX6_bulk 195 = .ok (.isub, 1) := by decide +kernel
theorem dX6_bulk_196 : decode cX6_bulk 196 = .ok (.goto 14, 3) := by decide +kernel
theorem dX6_bulk_199 : decode cX6_bulk 199 = .ok (.iload 5, 2) := by decide +kernel
theorem dX6_bulk_201 : decode cX6_bulk 201 = .ok (.iconst 5, 1) := by decide +kernel
theorem dX6_bulk_202 : decode cX6_bulk 202 = .ok (.aload_n 0, 1) := by decide +kernel
theorem dX6_bulk_203 : decode cX6_bulk 203 = .ok (.getfield 64, 3) := by decide +kernel
theorem dX6_bulk_206 : decode cX6_bulk 206 = .ok (.iload_n 3, 1) := by decide +kernel
theorem dX6_bulk_207 : decode cX6_bulk 207 = .ok (.iaload, 1) := by decide +kernel
theorem dX6_bulk_208 : decode cX6_bulk 208 = .ok (.imul, 1) := by decide +kernel
theorem dX6_bulk_209 : decode cX6_bulk 209 = .ok (.iadd, 1) := by decide +kernel
theorem dX6_bulk_210 : decode cX6_bulk 210 = .ok (.ireturn, 1) := by decide +kernel
theorem dX6_things_0 : decode cX6_things 0 = .ok (.aload_n 0, 1) := by decide +kernel
theorem dX6_things_1 : decode cX6_things 1 = .ok (.iconst 0, 1) := by decide +kernel
theorem dX6_things_2 : decode cX6_things 2 = .ok (.putfield 106, 3) := by decide +kernel
theorem dX6_things_5 : decode cX6_things 5 = .ok (.aload_n 0, 1) := by decide +kernel
theorem dX6_things_6 : decode cX6_things 6 = .ok (.iload_n 1, 1) := by decide +kernel
theorem dX6_things_7 : decode cX6_things 7 = .ok (.invokevirtual 179, 3) := by decide +kernel
theorem dX6_things_10 : decode cX6_things 10 = .ok (.ifCond .eq 11, 3) := by decide +kernel
theorem dX6_things_13 : decode cX6_things 13 = .ok (.aload_n 0, 1) := by decide +kernel
theorem dX6_things_14 : decode cX6_things 14 = .ok (.iload_n 2, 1) := by decide +kernel
theorem dX6_things_15 : decode cX6_things 15 = .ok (.invokevirtual 224, 3) := by decide +kernel
theorem dX6_things_18 : decode cX6_things 18 = .ok (.ifCond .ne 5, 3) := by decide +kernel
theorem dX6_things_21 : decode cX6_things 21 = .ok (.iconst (-1), 1) := by decide +kernel
theorem dX6_things_22 : decode cX6_things 22 = .ok (.ireturn, 1) := by decide +kernel
theorem dX6_things_23 : decode cX6_things 23 = .ok (.aload_n 0, 1) := by decide +kernel
theorem dX6_things_24 : decode cX6_things 24 = .ok (.iload_n 1, 1) := by decide +kernel
theorem dX6_things_25 : decode cX6_things 25 = .ok (.iload_n 2, 1) := by decide +kernel
theorem dX6_things_26 : decode cX6_things 26 = .ok (.invokevirtual 227, 3) := by decide +kernel
theorem dX6_things_29 : decode cX6_things 29 = .ok (.iconst 0, 1) := by decide +kernel
theorem dX6_things_30 : decode cX6_things 30 = .ok (.istore_n 3, 1) := by decide +kernel
theorem dX6_things_31 : decode cX6_things 31 = .ok (.iconst 0, 1) := by decide +kernel
theorem dX6_things_32 : decode cX6_things 32 = .ok (.istore 4, 2) := by decide +kernel
theorem dX6_things_34 : decode cX6_things 34 = .ok (.iload 4, 2) := by decide +kernel
theorem dX6_things_36 : decode cX6_things 36 = .ok (.bipush 12, 2) := by decide +kernel
theorem dX6_things_38 : decode cX6_things 38 = .ok (.if_icmp .ge 27, 3) := by decide +kernel
theorem dX6_things_41 : decode cX6_things 41 = .ok (.iload_n 3, 1) := by decide +kernel
theorem dX6_things_42 : decode cX6_things 42 = .ok (.aload_n 0, 1) := by decide +kernel
theorem dX6_things_43 : decode cX6_things 43 = .ok (.getfield 46, 3) := by decide +kernel
theorem dX6_things_46 : decode cX6_things 46 = .ok (.iload 4, 2) := by decide +kernel
theorem dX6_things_48 : decode cX6_things 48 = .ok (.baload, 1) := by decide +kernel
theorem dX6_things_49 : decode cX6_things 49 = .ok (.ifCond .eq 7, 3) := by decide +kernel
theorem dX6_things_52 : decode cX6_things 52 = .ok (.iconst 1, 1) := by decide +kernel
theorem dX6_things_53 : decode cX6_things 53 = .ok (.goto 4, 3) := by decide +kernel
theorem dX6_things_56 : decode cX6_things 56 = .ok (.iconst 0, 1) := by decide +kernel
theorem dX6_things_57 : decode cX6_things 57 = .ok (.iadd, 1) := by decide +kernel
theorem dX6_things_58 : decode cX6_things 58 = .ok (.istore_n 3, 1) := by decide +kernel
theorem dX6_things_59 : decode cX6_things 59 = .ok (.iinc 4 1, 3) := by decide +kernel
theorem dX6_things_62 : decode cX6_things 62 = .ok (.goto (-28), 3) := by decide +kernel
theorem dX6_things_65 : decode cX6_things 65 = .ok (.iload_n 3, 1) := by decide +kernel
theorem dX6_things_66 : decode cX6_things 66 = .ok (.ireturn, 1) := by decide +kernel
theorem dX6_find_0 : decode cX6_find 0 = .ok (.aload_n 0, 1) := by decide +kernel
theorem dX6_find_1 : decode cX6_find 1 = .ok (.iconst 0, 1) := by decide +kernel
theorem dX6_find_2 : decode cX6_find 2 = .ok (.putfield 106, 3) := by decide +kernel
theorem dX6_find_5 : decode cX6_find 5 = .ok (.aload_n 0, 1) := by decide +kernel
theorem dX6_find_6 : decode cX6_find 6 = .ok (.iload_n 1, 1) := by decide +kernel
theorem dX6_find_7 : decode cX6_find 7 = .ok (.invokevirtual 179, 3) := by decide +kernel
theorem dX6_find_10 : decode cX6_find 10 = .ok (.ifCond .eq 20, 3) := by decide +kernel
theorem dX6_find_13 : decode cX6_find 13 = .ok (.iload_n 2, 1) := by decide +kernel
theorem dX6_find_14 : decode cX6_find 14 = .ok (.invokestatic 182, 3) := by decide +kernel
theorem dX6_find_17 : decode cX6_find 17 = .ok (.ifCond .eq 13, 3) := by decide +kernel
theorem dX6_find_20 : decode cX6_find 20 = .ok (.iload_n 3, 1) := by decide +kernel
theorem dX6_find_21 : decode cX6_find 21 = .ok (.iconst 0, 1) := by decide +kernel
theorem dX6_find_22 : decode cX6_find 22 = .ok (.bipush 22, 2) := by decide +kernel
theorem dX6_find_24 : decode cX6_find 24 = .ok (.invokestatic 115, 3) := by decide +kernel
theorem dX6_find_27 : decode cX6_find 27 = .ok (.ifCond .ne 5, 3) := by decide +kernel
theorem dX6_find_30 : decode cX6_find 30 = .ok (.iconst (-1), 1) := by decide +kernel
theorem dX6_find_31 : decode cX6_find 31 = .ok (.ireturn, 1) := by decide +kernel
theorem dX6_find_32 : decode cX6_find 32 = .ok (.aload_n 0, 1) := by decide +kernel
theorem dX6_find_33 : decode cX6_find 33 = .ok (.iload_n 1, 1) := by decide +kernel
theorem dX6_find_34 : decode cX6_find 34 = .ok (.invokevirtual 176, 3) := by decide +kernel
theorem dX6_find_37 : decode cX6_find 37 = .ok (.aload_n 0, 1) := by decide +kernel
theorem dX6_find_38 : decode cX6_find 38 = .ok (.iload_n 2, 1) := by decide +kernel
theorem dX6_find_39 : decode cX6_find 39 = .ok (.invokevirtual 137, 3) := by decide +kernel
theorem dX6_find_42 : decode cX6_find 42 = .ok (.ifCond .ne 6, 3) := by decide +kernel
theorem dX6_find_45 : decode cX6_find 45 = .ok (.bipush (-2), 2) := by decide +kernel
theorem dX6_find_47 : decode cX6_find 47 = .ok (.ireturn, 1) := by decide +kernel
theorem dX6_find_48 : decode cX6_find 48 = .ok (.bipush (-9), 2) := by decide +kernel
theorem dX6_find_50 : decode cX6_find 50 = .ok (.istore 4, 2) := by decide +kernel
theorem dX6_find_52 : decode cX6_find 52 = .ok (.iconst 1, 1) := by decide +kernel
theorem dX6_find_53 : decode cX6_find 53 = .ok (.istore 5, 2) := by decide +kernel
theorem dX6_find_55 : decode cX6_find 55 = .ok (.iload 5, 2) := by decide +kernel
theorem dX6_find_57 : decode cX6_find 57 = .ok (.bipush 12, 2) := by decide +kernel
theorem dX6_find_59 : decode cX6_find 59 = .ok (.if_icmp .ge 50, 3) := by decide +kernel
theorem dX6_find_62 : decode cX6_find 62 = .ok (.aload_n 0, 1) := by decide +kernel
theorem dX6_find_63 : decode cX6_find 63 = .ok (.getfield 46, 3) := by decide +kernel
theorem dX6_find_66 : decode cX6_find 66 = .ok (.iload 5, 2) := by decide +kernel
theorem dX6_find_68 : decode cX6_find 68 = .ok (.baload, 1) := by decide +kernel
theorem dX6_find_69 : decode cX6_find 69 = .ok (.ifCond .eq 30, 3) := by decide +kernel
theorem dX6_find_72 : decode cX6_find 72 = .ok (.aload_n 0, 1) := by decide +kernel
theorem dX6_find_73 : decode cX6_find 73 = .ok (.getfield 52, 3) := by decide +kernel
theorem dX6_find_76 : decode cX6_find 76 = .ok (.iload 5, 2) := by decide +kernel
theorem dX6_find_78 : decode cX6_find 78 = .ok (.iaload, 1) := by decide +kernel
theorem dX6_find_79 : decode cX6_find 79 = .ok (.iload_n 2, 1) := by decide +kernel
theorem dX6_find_80 : decode cX6_find 80 = .ok (.if_icmp .ne 19, 3) := by decide +kernel
theorem dX6_find_83 : decode cX6_find 83 = .ok (.aload_n 0, 1) := by decide +kernel
theorem dX6_find_84 : decode cX6_find 84 = .ok (.getfield 61, 3) := by decide +kernel
theorem dX6_find_87 : decode cX6_find 87 = .ok (.iload 5, 2) := by decide +kernel
theorem dX6_find_89 : decode cX6_find 89 = .ok (.iaload, 1) := by decide +kernel
theorem dX6_find_90 : decode cX6_find 90 = .ok (.iload_n 3, 1) := by decide +kernel
theorem dX6_find_91 : decode cX6_find 91 = .ok (.if_icmp .ne 8, 3) := by decide +kernel
theorem dX6_find_94 : decode cX6_find 94 = .ok (.iload 5, 2) := by decide +kernel
theorem dX6_find_96 : decode cX6_find 96 = .ok (.goto 5, 3) := by decide +kernel
theorem dX6_find_99 : decode cX6_find 99 = .ok (.iload 4, 2) := by decide +kernel
theorem dX6_find_101 : decode cX6_find 101 = .ok (.istore 4, 2) := by decide +kernel
theorem dX6_find_103 : decode cX6_find 103 = .ok (.iinc 5 1, 3) := by decide +kernel
theorem dX6_find_106 : decode cX6_find 106 = .ok (.goto (-51), 3) := by decide +kernel
theorem dX6_find_109 : decode cX6_find 109 = .ok (.iload 4, 2) := by decide +kernel
theorem dX6_find_111 : decode cX6_find 111 = .ok (.ireturn, 1) := by decide +kernel
theorem dX6_sum_0 : decode cX6_sum 0 = .ok (.aload_n 0, 1) := by decide +kernel
theorem dX6_sum_1 : decode cX6_sum 1 = .ok (.iconst 0, 1) := by decide +kernel
theorem dX6_sum_2 : decode cX6_sum 2 = .ok (.putfield 106, 3) := by decide +kernel
theorem dX6_sum_5 : decode cX6_sum 5 = .ok (.aload_n 0, 1) := by decide +kernel
theorem dX6_sum_6 : decode cX6_sum 6 = .ok (.iload_n 1, 1) := by decide +kernel
theorem dX6_sum_7 : decode cX6_sum 7 = .ok (.invokevirtual 179, 3) := by decide +kernel
theorem dX6_sum_10 : decode cX6_sum 10 = .ok (.ifCond .eq 11, 3) := by decide +kernel
theorem dX6_sum_13 : decode cX6_sum 13 = .ok (.aload_n 0, 1) := by decide +kernel
theorem dX6_sum_14 : decode cX6_sum 14 = .ok (.iload_n 2, 1) := by decide +kernel
theorem dX6_sum_15 : decode cX6_sum 15 = .ok (.invokevirtual 224, 3) := by decide +kernel
theorem dX6_sum_18 : decode cX6_sum 18 = .ok (.ifCond .ne 5, 3) := by decide +kernel
theorem dX6_sum_21 : decode cX6_sum 21 = .ok (.iconst (-1), 1) := by decide +kernel
theorem dX6_sum_22 : decode cX6_sum 22 = .ok (.ireturn, 1) := by decide +kernel
theorem dX6_sum_23 : decode cX6_sum 23 = .ok (.aload_n 0, 1) := by decide +kernel
theorem dX6_sum_24 : decode cX6_sum 24 = .ok (.iload_n 1, 1) := by decide +kernel
theorem dX6_sum_25 : decode cX6_sum 25 = .ok (.iload_n 2, 1) := by decide +kernel
theorem dX6_sum_26 : decode cX6_sum 26 = .ok (.invokevirtual 227, 3) := by decide +kernel
theorem dX6_sum_29 : decode cX6_sum 29 = .ok (.lconst 0, 1) := by decide +kernel
theorem dX6_sum_30 : decode cX6_sum 30 = .ok (.lstore_n 3, 1) := by decide +kernel
theorem dX6_sum_31 : decode cX6_sum 31 = .ok (.iconst 0, 1) := by decide +kernel
theorem dX6_sum_32 : decode cX6_sum 32 = .ok (.istore 5, 2) := by decide +kernel
theorem dX6_sum_34 : decode cX6_sum 34 = .ok (.iload 5, 2) := by decide +kernel
theorem dX6_sum_36 : decode cX6_sum 36 = .ok (.bipush 12, 2) := by decide +kernel
theorem dX6_sum_38 : decode cX6_sum 38 = .ok (.if_icmp .ge 137, 3) := by decide +kernel
theorem dX6_sum_41 : decode cX6_sum 41 = .ok (.aload_n 0, 1) := by decide +kernel
theorem dX6_sum_42 : decode cX6_sum 42 = .ok (.getfield 46, 3) := by decide +kernel
theorem dX6_sum_45 : decode cX6_sum 45 = .ok (.iload 5, 2) := by decide +kernel
theorem dX6_sum_47 : decode cX6_sum 47 = .ok (.baload, 1) := by decide +kernel
theorem dX6_sum_48 : decode cX6_sum 48 = .ok (.ifCond .eq 121, 3) := by decide +kernel
theorem dX6_sum_51 : decode cX6_sum 51 = .ok (.ldc2_w 253, 3) := by decide +kernel
theorem dX6_sum_54 : decode cX6_sum 54 = .ok (.aload_n 0, 1) := by decide +kernel
theorem dX6_sum_55 : decode cX6_sum 55 = .ok (.getfield 52, 3) := by decide +kernel
theorem dX6_sum_58 : decode cX6_sum 58 = .ok (.iload 5, 2) := by decide +kernel
theorem dX6_sum_60 : decode cX6_sum 60 = .ok (.iaload, 1) := by decide +kernel
theorem dX6_sum_61 : decode cX6_sum 61 = .ok (.i2l, 1) := by decide +kernel
theorem dX6_sum_62 : decode cX6_sum 62 = .ok (.lmul, 1) := by decide +kernel
theorem dX6_sum_63 : decode cX6_sum 63 = .ok (.ldc2_w 255, 3) := by decide +kernel
theorem dX6_sum_66 : decode cX6_sum 66 = .ok (.aload_n 0, 1) := by decide +kernel
theorem dX6_sum_67 : decode cX6_sum 67 = .ok (.getfield 61, 3) := by decide +kernel
theorem dX6_sum_70 : decode cX6_sum 70 = .ok (.iload 5, 2) := by decide +kernel
theorem dX6_sum_72 : decode cX6_sum 72 = .ok (.iaload, 1) := by decide +kernel
theorem dX6_sum_73 : decode cX6_sum 73 = .ok (.i2l, 1) := by decide +kernel
theorem dX6_sum_74 : decode cX6_sum 74 = .ok (.lmul, 1) := by decide +kernel
theorem dX6_sum_75 : decode cX6_sum 75 = .ok (.ladd, 1) := by decide +kernel
theorem dX6_sum_76 : decode cX6_sum 76 = .ok (.lstore 6, 2) := by decide +kernel
theorem dX6_sum_78 : decode cX6_sum 78 = .ok (.iconst 0, 1) := by decide +kernel
theorem dX6_sum_79 : decode cX6_sum 79 = .ok (.istore 8, 2) := by decide +kernel
theorem dX6_sum_81 : decode cX6_sum 81 = .ok (.iload 8, 2) := by decide +kernel
theorem dX6_sum_83 : decode cX6_sum 83 = .ok (.aload_n 0, 1) := by decide +kernel
theorem dX6_sum_84 : decode cX6_sum 84 = .ok (.getfield 64, 3) := by decide +kernel
theorem dX6_sum_87 : decode cX6_sum 87 = .ok (.iload 5, 2) := by decide +kernel
theorem dX6_sum_89 : decode cX6_sum 89 = .ok (.iaload, 1) := by decide +kernel
theorem dX6_sum_90 : decode cX6_sum 90 = .ok (.if_icmp .ge 68, 3) := by decide +kernel
theorem dX6_sum_93 : decode cX6_sum 93 = .ok (.aload_n 0, 1) := by decide +kernel
theorem dX6_sum_94 : decode cX6_sum 94 = .ok (.getfield 67, 3) := by decide +kernel
theorem dX6_sum_97 : decode cX6_sum 97 = .ok (.bipush 16, 2) := by decide +kernel
theorem dX6_sum_99 : decode cX6_sum 99 = .ok (.iload 5, 2) := by decide +kernel
theorem dX6_sum_101 : decode cX6_sum 101 = .ok (.imul, 1) := by decide +kernel
theorem dX6_sum_102 : decode cX6_sum 102 = .ok (.iload 8, 2) := by decide +kernel
theorem dX6_sum_104 : decode cX6_sum 104 = .ok (.iadd, 1) := by decide +kernel
theorem dX6_sum_105 : decode cX6_sum 105 = .ok (.iaload, 1) := by decide +kernel
theorem dX6_sum_106 : decode cX6_sum 106 = .ok (.istore 9, 2) := by decide +kernel
theorem dX6_sum_108 : decode cX6_sum 108 = .ok (.iconst 0, 1) := by decide +kernel
theorem dX6_sum_109 : decode cX6_sum 109 = .ok (.istore 10, 2) := by decide +kernel
theorem dX6_sum_111 : decode cX6_sum 111 = .ok (.iload 10, 2) := by decide +kernel
theorem dX6_sum_113 : decode cX6_sum 113 = .ok (.aload_n 0, 1) := by decide +kernel
theorem dX6_sum_114 : decode cX6_sum 114 = .ok (.iload 9, 2) := by decide +kernel
theorem dX6_sum_116 : decode cX6_sum 116 = .ok (.invokevirtual 230, 3) := by decide +kernel
theorem dX6_sum_119 : decode cX6_sum 119 = .ok (.if_icmp .ge 33, 3) := by decide +kernel
theorem dX6_sum_122 : decode cX6_sum 122 = .ok (.lload 6, 2) := by decide +kernel
theorem dX6_sum_124 : decode cX6_sum 124 = .ok (.aload_n 0, 1) := by decide +kernel
theorem dX6_sum_125 : decode cX6_sum 125 = .ok (.getfield 20, 3) := by decide +kernel
theorem dX6_sum_128 : decode cX6_sum 128 = .ok (.iload 9, 2) := by decide +kernel
theorem dX6_sum_130 : decode cX6_sum 130 = .ok (.laload, 1) := by decide +kernel
theorem dX6_sum_131 : decode cX6_sum 131 = .ok (.aload_n 0, 1) := by decide +kernel
theorem dX6_sum_132 : decode cX6_sum 132 = .ok (.iload 9, 2) := by decide +kernel
theorem dX6_sum_134 : decode cX6_sum 134 = .ok (.invokevirtual 230, 3) := by decide +kernel
theorem dX6_sum_137 : decode cX6_sum 137 = .ok (.iload 10, 2) := by decide +kernel
theorem dX6_sum_139 : decode cX6_sum 139 = .ok (.invokestatic 194, 3) := by decide +kernel
theorem dX6_sum_142 : decode cX6_sum 142 = .ok (.i2l, 1) := by decide +kernel
theorem dX6_sum_143 : decode cX6_sum 143 = .ok (.ladd, 1) := by decide +kernel
theorem dX6_sum_144 : decode cX6_sum 144 = .ok (.lstore 6, 2) := by decide +kernel
theorem dX6_sum_146 : decode cX6_sum 146 = .ok (.iinc 10 1, 3) := by decide +kernel
theorem dX6_sum_149 : decode cX6_sum 149 = .ok (.goto (-38), 3) := by decide +kernel
theorem dX6_sum_152 : decode cX6_sum 152 = .ok (.iinc 8 1, 3) := by decide +kernel
theorem dX6_sum_155 : decode cX6_sum 155 = .ok (.goto (-74), 3) := by decide +kernel
theorem dX6_sum_158 : decode cX6_sum 158 = .ok (.lload_n 3, 1) := by decide +kernel
theorem dX6_sum_159 : decode cX6_sum 159 = .ok (.lconst 1, 1) := by decide +kernel
theorem dX6_sum_160 : decode cX6_sum 160 = .ok (.iload 5, 2) := by decide +kernel
theorem dX6_sum_162 : decode cX6_sum 162 = .ok (.i2l, 1) := by decide +kernel
theorem dX6_sum_163 : decode cX6_sum 163 = .ok (.lload 6, 2) := by decide +kernel
theorem dX6_sum_165 : decode cX6_sum 165 = .ok (.lmul, 1) := by decide +kernel
theorem dX6_sum_166 : decode cX6_sum 166 = .ok (.ladd, 1) := by decide +kernel
theorem dX6_sum_167 : decode cX6_sum 167 = .ok (.ladd, 1) := by decide +kernel
theorem dX6_sum_168 : decode cX6_sum 168 = .ok (.lstore_n 3, 1) := by decide +kernel
theorem dX6_sum_169 : decode cX6_sum 169 = .ok (.iinc 5 1, 3) := by decide +kernel
theorem dX6_sum_172 : decode cX6_sum 172 = .ok (.goto (-138), 3) := by decide +kernel
theorem dX6_sum_175 : decode cX6_sum 175 = .ok (.lload_n 3, 1) := by decide +kernel
theorem dX6_sum_176 : decode cX6_sum 176 = .ok (.ldc2_w 257, 3) := by decide +kernel
theorem dX6_sum_179 : decode cX6_sum 179 = .ok (.lrem, 1) := by decide +kernel
theorem dX6_sum_180 : decode cX6_sum 180 = .ok (.l2i, 1) := by decide +kernel
theorem dX6_sum_181 : decode cX6_sum 181 = .ok (.ireturn, 1) := by decide +kernel
theorem dX6_differ_0 : decode cX6_differ 0 = .ok (.aload_n 0, 1) := by decide +kernel
theorem dX6_differ_1 : decode cX6_differ 1 = .ok (.iconst 0, 1) := by decide +kernel
theorem dX6_differ_2 : decode cX6_differ 2 = .ok (.putfield 106, 3) := by decide +kernel
theorem dX6_differ_5 : decode cX6_differ 5 = .ok (.aload_n 0, 1) := by decide +kernel
theorem dX6_differ_6 : decode cX6_differ 6 = .ok (.iload_n 1, 1) := by decide +kernel
theorem dX6_differ_7 : decode cX6_differ 7 = .ok (.invokevirtual 179, 3) := by decide +kernel
theorem dX6_differ_10 : decode cX6_differ 10 = .ok (.ifCond .eq 11, 3) := by decide +kernel
theorem dX6_differ_13 : decode cX6_differ 13 = .ok (.aload_n 0, 1) := by decide +kernel
theorem dX6_differ_14 : decode cX6_differ 14 = .ok (.iload_n 2, 1) := by decide +kernel
theorem dX6_differ_15 : decode cX6_differ 15 = .ok (.invokevirtual 179, 3) := by decide +kernel
theorem dX6_differ_18 : decode cX6_differ 18 = .ok (.ifCond .ne 5, 3) := by decide +kernel
theorem dX6_differ_21 : decode cX6_differ 21 = .ok (.iconst (-1), 1) := by decide +kernel
theorem dX6_differ_22 : decode cX6_differ 22 = .ok (.ireturn, 1) := by decide +kernel
theorem dX6_differ_23 : decode cX6_differ 23 = .ok (.iconst 0, 1) := by decide +kernel
theorem dX6_differ_24 : decode cX6_differ 24 = .ok (.istore_n 3, 1) := by decide +kernel
theorem dX6_differ_25 : decode cX6_differ 25 = .ok (.iconst 0, 1) := by decide +kernel
theorem dX6_differ_26 : decode cX6_differ 26 = .ok (.istore 4, 2) := by decide +kernel
theorem dX6_differ_28 : decode cX6_differ 28 = .ok (.iload 4, 2) := by decide +kernel
theorem dX6_differ_30 : decode cX6_differ 30 = .ok (.aload_n 0, 1) := by decide +kernel
theorem dX6_differ_31 : decode cX6_differ 31 = .ok (.getfield 7, 3) := by decide +kernel
theorem dX6_differ_34 : decode cX6_differ 34 = .ok (.if_icmp .ge 50, 3) := by decide +kernel
theorem dX6_differ_37 : decode cX6_differ 37 = .ok (.aload_n 0, 1) := by decide +kernel
theorem dX6_differ_38 : decode cX6_differ 38 = .ok (.getfield 24, 3) := by decide +kernel
theorem dX6_differ_41 : decode cX6_differ 41 = .ok (.iconst 4, 1) := by decide +kernel
theorem dX6_differ_42 : decode cX6_differ 42 = .ok (.iload_n 1, 1) := by decide +kernel
theorem dX6_differ_43 : decode cX6_differ 43 = .ok (.imul, 1) := by decide +kernel
theorem dX6_differ_44 : decode cX6_differ 44 = .ok (.iload 4, 2) := by decide +kernel
theorem dX6_differ_46 : decode cX6_differ 46 = .ok (.iadd, 1) := by decide +kernel
theorem dX6_differ_47 : decode cX6_differ 47 = .ok (.iaload, 1) := by decide +kernel
theorem dX6_differ_48 : decode cX6_differ 48 = .ok (.aload_n 0, 1) := by decide +kernel
theorem dX6_differ_49 : decode cX6_differ 49 = .ok (.getfield 24, 3) := by decide +kernel
theorem dX6_differ_52 : decode cX6_differ 52 = .ok (.iconst 4, 1) := by decide +kernel
theorem dX6_differ_53 : decode cX6_differ 53 = .ok (.iload_n 2, 1) := by decide +kernel
theorem dX6_differ_54 : decode cX6_differ 54 = .ok (.imul, 1) := by decide +kernel
theorem dX6_differ_55 : decode cX6_differ 55 = .ok (.iload 4, 2) := by decide +kernel
theorem dX6_differ_57 : decode cX6_differ 57 = .ok (.iadd, 1) := by decide +kernel
theorem dX6_differ_58 : decode cX6_differ 58 = .ok (.iaload, 1) := by decide +kernel
theorem dX6_differ_59 : decode cX6_differ 59 = .ok (.isub, 1) := by decide +kernel
theorem dX6_differ_60 : decode cX6_differ 60 = .ok (.istore 5, 2) := by decide +kernel
theorem dX6_differ_62 : decode cX6_differ 62 = .ok (.iload_n 3, 1) := by decide +kernel
theorem dX6_differ_63 : decode cX6_differ 63 = .ok (.iload 5, 2) := by decide +kernel
theorem dX6_differ_65 : decode cX6_differ 65 = .ok (.ifCond .ge 9, 3) := by decide +kernel
theorem dX6_differ_68 : decode cX6_differ 68 = .ok (.iload 5, 2) := by decide +kernel
theorem dX6_differ_70 : decode cX6_differ 70 = .ok (.ineg, 1) := by decide +kernel
theorem dX6_differ_71 : decode cX6_differ 71 = .ok (.goto 5, 3) := by decide +kernel
theorem dX6_differ_74 : decode cX6_differ 74 = .ok (.iload 5, 2) := by decide +kernel
theorem dX6_differ_76 : decode cX6_differ 76 = .ok (.iadd, 1) := by decide +kernel
theorem dX6_differ_77 : decode cX6_differ 77 = .ok (.istore_n 3, 1) := by decide +kernel
theorem dX6_differ_78 : decode cX6_differ 78 = .ok (.iinc 4 1, 3) := by decide +kernel
theorem dX6_differ_81 : decode cX6_differ 81 = .ok (.goto (-53), 3) := by decide +kernel
theorem dX6_differ_84 : decode cX6_differ 84 = .ok (.iload_n 3, 1) := by decide +kernel
theorem dX6_differ_85 : decode cX6_differ 85 = .ok (.ireturn, 1) := by decide +kernel
theorem dX6_apart_0 : decode cX6_apart 0 = .ok (.aload_n 0, 1) := by decide +kernel
theorem dX6_apart_1 : decode cX6_apart 1 = .ok (.iconst 0, 1) := by decide +kernel
theorem dX6_apart_2 : decode cX6_apart 2 = .ok (.putfield 106, 3) := by decide +kernel
theorem dX6_apart_5 : decode cX6_apart 5 = .ok (.aload_n 0, 1) := by decide +kernel
theorem dX6_apart_6 : decode cX6_apart 6 = .ok (.iload_n 1, 1) := by decide +kernel
theorem dX6_apart_7 : decode cX6_apart 7 = .ok (.invokevirtual 179, 3) := by decide +kernel
theorem dX6_apart_10 : decode cX6_apart 10 = .ok (.ifCond .eq 13, 3) := by decide +kernel
theorem dX6_apart_13 : decode cX6_apart 13 = .ok (.iload_n 2, 1) := by decide +kernel
theorem dX6_apart_14 : decode cX6_apart 14 = .ok (.iconst 0, 1) := by decide +kernel
theorem dX6_apart_15 : decode cX6_apart 15 = .ok (.bipush 20, 2) := by decide +kernel
theorem dX6_apart_17 : decode cX6_apart 17 = .ok (.invokestatic 115, 3) := by decide +kernel
theorem dX6_apart_20 : decode cX6_apart 20 = .ok (.ifCond .ne 5, 3) := by decide +kernel
theorem dX6_apart_23 : decode cX6_apart 23 = .ok (.iconst (-1), 1) := by decide +kernel
theorem dX6_apart_24 : decode cX6_apart 24 = .ok (.ireturn, 1) := by decide +kernel
theorem dX6_apart_25 : decode cX6_apart 25 = .ok (.aload_n 0, 1) := by decide +kernel
theorem dX6_apart_26 : decode cX6_apart 26 = .ok (.getfield 30, 3) := by decide +kernel
theorem dX6_apart_29 : decode cX6_apart 29 = .ok (.iload_n 1, 1) := by decide +kernel
theorem dX6_apart_30 : decode cX6_apart 30 = .ok (.iaload, 1) := by decide +kernel
theorem dX6_apart_31 : decode cX6_apart 31 = .ok (.istore_n 3, 1) := by decide +kernel
theorem dX6_apart_32 : decode cX6_apart 32 = .ok (.aload_n 0, 1) := by decide +kernel
theorem dX6_apart_33 : decode cX6_apart 33 = .ok (.getfield 30, 3) := by decide +kernel
theorem dX6_apart_36 : decode cX6_apart 36 = .ok (.iload_n 1, 1) := by decide +kernel
theorem dX6_apart_37 : decode cX6_apart 37 = .ok (.iload_n 2, 1) := by decide +kernel
theorem dX6_apart_38 : decode cX6_apart 38 = .ok (.iastore, 1) := by decide +kernel
theorem dX6_apart_39 : decode cX6_apart 39 = .ok (.iload_n 3, 1) := by decide +kernel
theorem dX6_apart_40 : decode cX6_apart 40 = .ok (.ireturn, 1) := by decide +kernel
theorem dX6_let_0 : decode cX6_let 0 = .ok (.aload_n 0, 1) := by decide +kernel
theorem dX6_let_1 : decode cX6_let 1 = .ok (.iconst 0, 1) := by decide +kernel
theorem dX6_let_2 : decode cX6_let 2 = .ok (.putfield 106, 3) := by decide +kernel
theorem dX6_let_5 : decode cX6_let 5 = .ok (.aload_n 0, 1) := by decide +kernel
theorem dX6_let_6 : decode cX6_let 6 = .ok (.iload_n 1, 1) := by decide +kernel
theorem dX6_let_7 : decode cX6_let 7 = .ok (.invokevirtual 179, 3) := by decide +kernel
theorem dX6_let_10 : decode cX6_let 10 = .ok (.ifCond .ne 5, 3) := by decide +kernel
theorem dX6_let_13 : decode cX6_let 13 = .ok (.iconst (-1), 1) := by decide +kernel
theorem dX6_let_14 : decode cX6_let 14 = .ok (.ireturn, 1) := by decide +kernel
theorem dX6_let_15 : decode cX6_let 15 = .ok (.aload_n 0, 1) := by decide +kernel
theorem dX6_let_16 : decode cX6_let 16 = .ok (.getfield 30, 3) := by decide +kernel
theorem dX6_let_19 : decode cX6_let 19 = .ok (.iload_n 1, 1) := by decide +kernel
theorem dX6_let_20 : decode cX6_let 20 = .ok (.iaload, 1) := by decide +kernel
theorem dX6_let_21 : decode cX6_let 21 = .ok (.istore_n 2, 1) := by decide +kernel
theorem dX6_let_22 : decode cX6_let 22 = .ok (.aload_n 0, 1) := by decide +kernel
theorem dX6_let_23 : decode cX6_let 23 = .ok (.getfield 30, 3) := by decide +kernel
theorem dX6_let_26 : decode cX6_let 26 = .ok (.iload_n 1, 1) := by decide +kernel
theorem dX6_let_27 : decode cX6_let 27 = .ok (.bipush (-9), 2) := by decide +kernel
theorem dX6_let_29 : decode cX6_let 29 = .ok (.iastore, 1) := by decide +kernel
theorem dX6_let_30 : decode cX6_let 30 = .ok (.iload_n 2, 1) := by decide +kernel
theorem dX6_let_31 : decode cX6_let 31 = .ok (.bipush (-9), 2) := by decide +kernel
theorem dX6_let_33 : decode cX6_let 33 = .ok (.if_icmp .ne 8, 3) := by decide +kernel
theorem dX6_let_36 : decode cX6_let 36 = .ok (.bipush (-2), 2) := by decide +kernel
theorem dX6_let_38 : decode cX6_let 38 = .ok (.goto 4, 3) := by decide +kernel
theorem dX6_let_41 : decode cX6_let 41 = .ok (.iload_n 2, 1) := by decide +kernel
theorem dX6_let_42 : decode cX6_let 42 = .ok (.ireturn, 1) := by decide +kernel
theorem dX6_left_0 : decode cX6_left 0 = .ok (.aload_n 0, 1) := by decide +kernel
theorem dX6_left_1 : decode cX6_left 1 = .ok (.invokevirtual 153, 3) := by decide +kernel
theorem dX6_left_4 : decode cX6_left 4 = .ok (.iconst 0, 1) := by decide +kernel
theorem dX6_left_5 : decode cX6_left 5 = .ok (.istore_n 3, 1) := by decide +kernel
theorem dX6_left_6 : decode cX6_left 6 = .ok (.iconst 0, 1) := by decide +kernel
theorem dX6_left_7 : decode cX6_left 7 = .ok (.istore 4, 2) := by decide +kernel
theorem dX6_left_9 : decode cX6_left 9 = .ok (.iload 4, 2) := by decide +kernel
theorem dX6_left_11 : decode cX6_left 11 = .ok (.aload_n 0, 1) := by decide +kernel
theorem dX6_left_12 : decode cX6_left 12 = .ok (.getfield 7, 3) := by decide +kernel
theorem dX6_left_15 : decode cX6_left 15 = .ok (.if_icmp .ge 39, 3) := by decide +kernel
theorem dX6_left_18 : decode cX6_left 18 = .ok (.aload_n 1, 1) := by decide +kernel
theorem dX6_left_19 : decode cX6_left 19 = .ok (.iload_n 2, 1) := by decide +kernel
theorem dX6_left_20 : decode cX6_left 20 = .ok (.iload 4, 2) := by decide +kernel
theorem dX6_left_22 : decode cX6_left 22 = .ok (.iadd, 1) := by decide +kernel
theorem dX6_left_23 : decode cX6_left 23 = .ok (.iaload, 1) := by decide +kernel
theorem dX6_left_24 : decode cX6_left 24 = .ok (.aload_n 0, 1) := by decide +kernel
theorem dX6_left_25 : decode cX6_left 25 = .ok (.getfield 33, 3) := by decide +kernel
theorem dX6_left_28 : decode cX6_left 28 = .ok (.iload 4, 2) := by decide +kernel
theorem dX6_left_30 : decode cX6_left 30 = .ok (.iaload, 1) := by decide +kernel
theorem dX6_left_31 : decode cX6_left 31 = .ok (.isub, 1) := by decide +kernel
theorem dX6_left_32 : decode cX6_left 32 = .ok (.istore 5, 2) := by decide +kernel
theorem dX6_left_34 : decode cX6_left 34 = .ok (.iload_n 3, 1) := by decide +kernel
theorem dX6_left_35 : decode cX6_left 35 = .ok (.iload 5, 2) := by decide +kernel
theorem dX6_left_37 : decode cX6_left 37 = .ok (.ifCond .le 8, 3) := by decide +kernel
theorem dX6_left_40 : decode cX6_left 40 = .ok (.iload 5, 2) := by decide +kernel
theorem dX6_left_42 : decode cX6_left 42 = .ok (.goto 4, 3) := by decide +kernel
theorem dX6_left_45 : decode cX6_left 45 = .ok (.iconst 0, 1) := by decide +kernel
theorem dX6_left_46 : decode cX6_left 46 = .ok (.iadd, 1) := by decide +kernel
theorem dX6_left_47 : decode cX6_left 47 = .ok (.istore_n 3, 1) := by decide +kernel
theorem dX6_left_48 : decode cX6_left 48 = .ok (.iinc 4 1, 3) := by decide +kernel
theorem dX6_left_51 : decode cX6_left 51 = .ok (.goto (-42), 3) := by decide +kernel
theorem dX6_left_54 : decode cX6_left 54 = .ok (.iload_n 3, 1) := by decide +kernel
theorem dX6_left_55 : decode cX6_left 55 = .ok (.ireturn, 1) := by decide +kernel
theorem dX6_taken_0 : decode cX6_taken 0 = .ok (.aload_n 0, 1) := by decide +kernel
theorem dX6_taken_1 : decode cX6_taken 1 = .ok (.iconst 0, 1) := by decide +kernel
theorem dX6_taken_2 : decode cX6_taken 2 = .ok (.putfield 106, 3) := by decide +kernel
theorem dX6_taken_5 : decode cX6_taken 5 = .ok (.aload_n 0, 1) := by decide +kernel
theorem dX6_taken_6 : decode cX6_taken 6 = .ok (.iload_n 1, 1) := by decide +kernel
theorem dX6_taken_7 : decode cX6_taken 7 = .ok (.invokevirtual 179, 3) := by decide +kernel
theorem dX6_taken_10 : decode cX6_taken 10 = .ok (.ifCond .eq 17, 3) := by decide +kernel
theorem dX6_taken_13 : decode cX6_taken 13 = .ok (.aload_n 0, 1) := by decide +kernel
theorem dX6_taken_14 : decode cX6_taken 14 = .ok (.aload_n 0, 1) := by decide +kernel
theorem dX6_taken_15 : decode cX6_taken 15 = .ok (.getfield 24, 3) := by decide +kernel
theorem dX6_taken_18 : decode cX6_taken 18 = .ok (.iconst 4, 1) := by decide +kernel
theorem dX6_taken_19 : decode cX6_taken 19 = .ok (.iload_n 1, 1) := by decide +kernel
theorem dX6_taken_20 : decode cX6_taken 20 = .ok (.imul, 1) := by decide +kernel
theorem dX6_taken_21 : decode cX6_taken 21 = .ok (.invokevirtual 259, 3) := by decide +kernel
theorem dX6_taken_24 : decode cX6_taken 24 = .ok (.goto 4, 3) := by decide +kernel
theorem dX6_taken_27 : decode cX6_taken 27 = .ok (.iconst (-1), 1) := by decide +kernel
theorem dX6_taken_28 : decode cX6_taken 28 = .ok (.ireturn, 1) := by decide +kernel
theorem dX6_room_0 : decode cX6_room 0 = .ok (.aload_n 0, 1) := by decide +kernel
theorem dX6_room_1 : decode cX6_room 1 = .ok (.iconst 0, 1) := by decide +kernel
theorem dX6_room_2 : decode cX6_room 2 = .ok (.putfield 106, 3) := by decide +kernel
theorem dX6_room_5 : decode cX6_room 5 = .ok (.aload_n 0, 1) := by decide +kernel
theorem dX6_room_6 : decode cX6_room 6 = .ok (.iload_n 1, 1) := by decide +kernel
theorem dX6_room_7 : decode cX6_room 7 = .ok (.invokevirtual 179, 3) := by decide +kernel
theorem dX6_room_10 : decode cX6_room 10 = .ok (.ifCond .eq 14, 3) := by decide +kernel
theorem dX6_room_13 : decode cX6_room 13 = .ok (.iload_n 2, 1) := by decide +kernel
theorem dX6_room_14 : decode cX6_room 14 = .ok (.iconst 0, 1) := by decide +kernel
theorem dX6_room_15 : decode cX6_room 15 = .ok (.sipush 200, 3) := by decide +kernel
theorem dX6_room_18 : decode cX6_room 18 = .ok (.invokestatic 115, 3) := by decide +kernel
theorem dX6_room_21 : decode cX6_room 21 = .ok (.ifCond .ne 5, 3) := by decide +kernel
theorem dX6_room_24 : decode cX6_room 24 = .ok (.iconst (-1), 1) := by decide +kernel
theorem dX6_room_25 : decode cX6_room 25 = .ok (.ireturn, 1) := by decide +kernel
theorem dX6_room_26 : decode cX6_room 26 = .ok (.aload_n 0, 1) := by decide +kernel
theorem dX6_room_27 : decode cX6_room 27 = .ok (.iload_n 1, 1) := by decide +kernel
theorem dX6_room_28 : decode cX6_room 28 = .ok (.invokevirtual 214, 3) := by decide +kernel
theorem dX6_room_31 : decode cX6_room 31 = .ok (.iload_n 2, 1) := by decide +kernel
theorem dX6_room_32 : decode cX6_room 32 = .ok (.if_icmp .le 6, 3) := by decide +kernel
theorem dX6_room_35 : decode cX6_room 35 = .ok (.bipush (-2), 2) := by decide +kernel
theorem dX6_room_37 : decode cX6_room 37 = .ok (.ireturn, 1) := by decide +kernel
theorem dX6_room_38 : decode cX6_room 38 = .ok (.aload_n 0, 1) := by decide +kernel
theorem dX6_room_39 : decode cX6_room 39 = .ok (.getfield 73, 3) := by decide +kernel
theorem dX6_room_42 : decode cX6_room 42 = .ok (.iload_n 1, 1) := by decide +kernel
theorem dX6_room_43 : decode cX6_room 43 = .ok (.iaload, 1) := by decide +kernel
theorem dX6_room_44 : decode cX6_room 44 = .ok (.istore_n 3, 1) := by decide +kernel
theorem dX6_room_45 : decode cX6_room 45 = .ok (.aload_n 0, 1) := by decide +kernel
theorem dX6_room_46 : decode cX6_room 46 = .ok (.getfield 73, 3) := by decide +kernel
theorem dX6_room_49 : decode cX6_room 49 = .ok (.iload_n 1, 1) := by decide +kernel
theorem dX6_room_50 : decode cX6_room 50 = .ok (.iload_n 2, 1) := by decide +kernel
theorem dX6_room_51 : decode cX6_room 51 = .ok (.iastore, 1) := by decide +kernel
theorem dX6_room_52 : decode cX6_room 52 = .ok (.iload_n 3, 1) := by decide +kernel
theorem dX6_room_53 : decode cX6_room 53 = .ok (.ireturn, 1) := by decide +kernel
theorem dX6_cutsFile_0 : decode cX6_cutsFile 0 = .ok (.iconst 0, 1) := by decide +kernel
theorem dX6_cutsFile_1 : decode cX6_cutsFile 1 = .ok (.istore_n 2, 1) := by decide +kernel
theorem dX6_cutsFile_2 : decode cX6_cutsFile 2 = .ok (.iload_n 2, 1) := by decide +kernel
theorem dX6_cutsFile_3 : decode cX6_cutsFile 3 = .ok (.aload_n 0, 1) := by decide +kernel
theorem dX6_cutsFile_4 : decode cX6_cutsFile 4 = .ok (.getfield 64, 3) := by decide +kernel
theorem dX6_cutsFile_7 : decode cX6_cutsFile 7 = .ok (.iload_n 1, 1) := by decide +kernel
theorem dX6_cutsFile_8 : decode cX6_cutsFile 8 = .ok (.iaload, 1) := by decide +kernel
theorem dX6_cutsFile_9 : decode cX6_cutsFile 9 = .ok (.if_icmp .ge 36, 3) := by decide +kernel
theorem dX6_cutsFile_12 : decode cX6_cutsFile 12 = .ok (.aload_n 0, 1) := by decide +kernel
theorem dX6_cutsFile_13 : decode cX6_cutsFile 13 = .ok (.getfield 67, 3) := by decide +kernel
theorem dX6_cutsFile_16 : decode cX6_cutsFile 16 = .ok (.bipush 16, 2) := by decide +kernel
theorem dX6_cutsFile_18 : decode cX6_cutsFile 18 = .ok (.iload_n 1, 1) := by decide +kernel
theorem dX6_cutsFile_19 : decode cX6_cutsFile 19 = .ok (.imul, 1) := by decide +kernel
theorem dX6_cutsFile_20 : decode cX6_cutsFile 20 = .ok (.iload_n 2, 1) := by decide +kernel
theorem dX6_cutsFile_21 : decode cX6_cutsFile 21 = .ok (.iadd, 1) := by decide +kernel
theorem dX6_cutsFile_22 : decode cX6_cutsFile 22 = .ok (.iaload, 1) := by decide +kernel
theorem dX6_cutsFile_23 : decode cX6_cutsFile 23 = .ok (.istore_n 3, 1) := by decide +kernel
theorem dX6_cutsFile_24 : decode cX6_cutsFile 24 = .ok (.aload_n 0, 1) := by decide +kernel
theorem dX6_cutsFile_25 : decode cX6_cutsFile 25 = .ok (.aload_n 0, 1) := by decide +kernel
theorem dX6_cutsFile_26 : decode cX6_cutsFile 26 = .ok (.getfield 20, 3) := by decide +kernel
theorem dX6_cutsFile_29 : decode cX6_cutsFile 29 = .ok (.iload_n 3, 1) := by decide +kernel
end
section
theorem dX6_cutsFile_30 : decode cX6_cutsFile 30 = .ok (.laload, 1) := by decide +kernel
theorem dX6_cutsFile_31 : decode cX6_cutsFile 31 = .ok (.aload_n 0, 1) := by decide +kernel
theorem dX6_cutsFile_32 : decode cX6_cutsFile 32 = .ok (.iload_n 3, 1) := by decide +kernel
theorem dX6_cutsFile_33 : decode cX6_cutsFile 33 = .ok (.invokevirtual 230, 3) := by decide +kernel
theorem dX6_cutsFile_36 : decode cX6_cutsFile 36 = .ok (.invokevirtual 207, 3) := by decide +kernel
theorem dX6_cutsFile_39 : decode cX6_cutsFile 39 = .ok (.iinc 2 1, 3) := by decide +kernel
theorem dX6_cutsFile_42 : decode cX6_cutsFile 42 = .ok (.goto (-40), 3) := by decide +kernel
theorem dX6_cutsFile_45 : decode cX6_cutsFile 45 = .ok (.return_, 1) := by decide +kernel
theorem dX6_pieces_0 : decode cX6_pieces 0 = .ok (.aload_n 0, 1) := by decide +kernel
theorem dX6_pieces_1 : decode cX6_pieces 1 = .ok (.iconst 0, 1) := by decide +kernel
theorem dX6_pieces_2 : decode cX6_pieces 2 = .ok (.putfield 106, 3) := by decide +kernel
theorem dX6_pieces_5 : decode cX6_pieces 5 = .ok (.aload_n 0, 1) := by decide +kernel
theorem dX6_pieces_6 : decode cX6_pieces 6 = .ok (.iload_n 1, 1) := by decide +kernel
theorem dX6_pieces_7 : decode cX6_pieces 7 = .ok (.invokevirtual 179, 3) := by decide +kernel
theorem dX6_pieces_10 : decode cX6_pieces 10 = .ok (.ifCond .eq 24, 3) := by decide +kernel
theorem dX6_pieces_13 : decode cX6_pieces 13 = .ok (.iload_n 2, 1) := by decide +kernel
theorem dX6_pieces_14 : decode cX6_pieces 14 = .ok (.iconst 0, 1) := by decide +kernel
theorem dX6_pieces_15 : decode cX6_pieces 15 = .ok (.iconst 2, 1) := by decide +kernel
theorem dX6_pieces_16 : decode cX6_pieces 16 = .ok (.invokestatic 115, 3) := by decide +kernel
theorem dX6_pieces_19 : decode cX6_pieces 19 = .ok (.ifCond .eq 15, 3) := by decide +kernel
theorem dX6_pieces_22 : decode cX6_pieces 22 = .ok (.iload_n 2, 1) := by decide +kernel
theorem dX6_pieces_23 : decode cX6_pieces 23 = .ok (.iconst 2, 1) := by decide +kernel
theorem dX6_pieces_24 : decode cX6_pieces 24 = .ok (.if_icmp .ne 12, 3) := by decide +kernel
theorem dX6_pieces_27 : decode cX6_pieces 27 = .ok (.iload_n 3, 1) := by decide +kernel
theorem dX6_pieces_28 : decode cX6_pieces 28 = .ok (.invokestatic 182, 3) := by decide +kernel
theorem dX6_pieces_31 : decode cX6_pieces 31 = .ok (.ifCond .ne 5, 3) := by decide +kernel
theorem dX6_pieces_34 : decode cX6_pieces 34 = .ok (.iconst (-1), 1) := by decide +kernel
theorem dX6_pieces_35 : decode cX6_pieces 35 = .ok (.ireturn, 1) := by decide +kernel
theorem dX6_pieces_36 : decode cX6_pieces 36 = .ok (.iload_n 2, 1) := by decide +kernel
theorem dX6_pieces_37 : decode cX6_pieces 37 = .ok (.iconst 2, 1) := by decide +kernel
theorem dX6_pieces_38 : decode cX6_pieces 38 = .ok (.if_icmp .ge 22, 3) := by decide +kernel
theorem dX6_pieces_41 : decode cX6_pieces 41 = .ok (.iload_n 2, 1) := by decide +kernel
theorem dX6_pieces_42 : decode cX6_pieces 42 = .ok (.ifCond .ne 12, 3) := by decide +kernel
theorem dX6_pieces_45 : decode cX6_pieces 45 = .ok (.aload_n 0, 1) := by decide +kernel
theorem dX6_pieces_46 : decode cX6_pieces 46 = .ok (.getfield 76, 3) := by decide +kernel
theorem dX6_pieces_49 : decode cX6_pieces 49 = .ok (.iload_n 1, 1) := by decide +kernel
theorem dX6_pieces_50 : decode cX6_pieces 50 = .ok (.iaload, 1) := by decide +kernel
theorem dX6_pieces_51 : decode cX6_pieces 51 = .ok (.goto 8, 3) := by decide +kernel
theorem dX6_pieces_54 : decode cX6_pieces 54 = .ok (.aload_n 0, 1) := by decide +kernel
theorem dX6_pieces_55 : decode cX6_pieces 55 = .ok (.iload_n 1, 1) := by decide +kernel
theorem dX6_pieces_56 : decode cX6_pieces 56 = .ok (.invokevirtual 214, 3) := by decide +kernel
theorem dX6_pieces_59 : decode cX6_pieces 59 = .ok (.ireturn, 1) := by decide +kernel
theorem dX6_pieces_60 : decode cX6_pieces 60 = .ok (.aload_n 0, 1) := by decide +kernel
theorem dX6_pieces_61 : decode cX6_pieces 61 = .ok (.iload_n 1, 1) := by decide +kernel
theorem dX6_pieces_62 : decode cX6_pieces 62 = .ok (.invokevirtual 176, 3) := by decide +kernel
theorem dX6_pieces_65 : decode cX6_pieces 65 = .ok (.aload_n 0, 1) := by decide +kernel
theorem dX6_pieces_66 : decode cX6_pieces 66 = .ok (.iload_n 3, 1) := by decide +kernel
theorem dX6_pieces_67 : decode cX6_pieces 67 = .ok (.invokevirtual 211, 3) := by decide +kernel
theorem dX6_pieces_70 : decode cX6_pieces 70 = .ok (.ifCond .ne 6, 3) := by decide +kernel
theorem dX6_pieces_73 : decode cX6_pieces 73 = .ok (.bipush (-2), 2) := by decide +kernel
theorem dX6_pieces_75 : decode cX6_pieces 75 = .ok (.ireturn, 1) := by decide +kernel
theorem dX6_pieces_76 : decode cX6_pieces 76 = .ok (.aload_n 0, 1) := by decide +kernel
theorem dX6_pieces_77 : decode cX6_pieces 77 = .ok (.iconst 0, 1) := by decide +kernel
theorem dX6_pieces_78 : decode cX6_pieces 78 = .ok (.putfield 200, 3) := by decide +kernel
theorem dX6_pieces_81 : decode cX6_pieces 81 = .ok (.aload_n 0, 1) := by decide +kernel
theorem dX6_pieces_82 : decode cX6_pieces 82 = .ok (.iload_n 3, 1) := by decide +kernel
theorem dX6_pieces_83 : decode cX6_pieces 83 = .ok (.invokevirtual 263, 3) := by decide +kernel
theorem dX6_pieces_86 : decode cX6_pieces 86 = .ok (.iconst 0, 1) := by decide +kernel
theorem dX6_pieces_87 : decode cX6_pieces 87 = .ok (.istore 4, 2) := by decide +kernel
theorem dX6_pieces_89 : decode cX6_pieces 89 = .ok (.iconst 0, 1) := by decide +kernel
theorem dX6_pieces_90 : decode cX6_pieces 90 = .ok (.istore 5, 2) := by decide +kernel
theorem dX6_pieces_92 : decode cX6_pieces 92 = .ok (.iload 5, 2) := by decide +kernel
theorem dX6_pieces_94 : decode cX6_pieces 94 = .ok (.aload_n 0, 1) := by decide +kernel
theorem dX6_pieces_95 : decode cX6_pieces 95 = .ok (.getfield 200, 3) := by decide +kernel
theorem dX6_pieces_98 : decode cX6_pieces 98 = .ok (.if_icmp .ge 43, 3) := by decide +kernel
theorem dX6_pieces_101 : decode cX6_pieces 101 = .ok (.iload 4, 2) := by decide +kernel
theorem dX6_pieces_103 : decode cX6_pieces 103 = .ok (.aload_n 0, 1) := by decide +kernel
theorem dX6_pieces_104 : decode cX6_pieces 104 = .ok (.iload_n 1, 1) := by decide +kernel
theorem dX6_pieces_105 : decode cX6_pieces 105 = .ok (.aload_n 0, 1) := by decide +kernel
theorem dX6_pieces_106 : decode cX6_pieces 106 = .ok (.getfield 85, 3) := by decide +kernel
theorem dX6_pieces_109 : decode cX6_pieces 109 = .ok (.iload 5, 2) := by decide +kernel
theorem dX6_pieces_111 : decode cX6_pieces 111 = .ok (.laload, 1) := by decide +kernel
theorem dX6_pieces_112 : decode cX6_pieces 112 = .ok (.aload_n 0, 1) := by decide +kernel
theorem dX6_pieces_113 : decode cX6_pieces 113 = .ok (.getfield 88, 3) := by decide +kernel
theorem dX6_pieces_116 : decode cX6_pieces 116 = .ok (.iload 5, 2) := by decide +kernel
theorem dX6_pieces_118 : decode cX6_pieces 118 = .ok (.iaload, 1) := by decide +kernel
theorem dX6_pieces_119 : decode cX6_pieces 119 = .ok (.invokevirtual 203, 3) := by decide +kernel
theorem dX6_pieces_122 : decode cX6_pieces 122 = .ok (.bipush (-9), 2) := by decide +kernel
theorem dX6_pieces_124 : decode cX6_pieces 124 = .ok (.if_icmp .ne 7, 3) := by decide +kernel
theorem dX6_pieces_127 : decode cX6_pieces 127 = .ok (.iconst 1, 1) := by decide +kernel
theorem dX6_pieces_128 : decode cX6_pieces 128 = .ok (.goto 4, 3) := by decide +kernel
theorem dX6_pieces_131 : decode cX6_pieces 131 = .ok (.iconst 0, 1) := by decide +kernel
theorem dX6_pieces_132 : decode cX6_pieces 132 = .ok (.iadd, 1) := by decide +kernel
theorem dX6_pieces_133 : decode cX6_pieces 133 = .ok (.istore 4, 2) := by decide +kernel
theorem dX6_pieces_135 : decode cX6_pieces 135 = .ok (.iinc 5 1, 3) := by decide +kernel
theorem dX6_pieces_138 : decode cX6_pieces 138 = .ok (.goto (-46), 3) := by decide +kernel
theorem dX6_pieces_141 : decode cX6_pieces 141 = .ok (.iload 4, 2) := by decide +kernel
theorem dX6_pieces_143 : decode cX6_pieces 143 = .ok (.ireturn, 1) := by decide +kernel
theorem dX6_isElsewhere_0 : decode cX6_isElsewhere 0 = .ok (.iconst 0, 1) := by decide +kernel
theorem dX6_isElsewhere_1 : decode cX6_isElsewhere 1 = .ok (.istore 5, 2) := by decide +kernel
theorem dX6_isElsewhere_3 : decode cX6_isElsewhere 3 = .ok (.iconst 0, 1) := by decide +kernel
theorem dX6_isElsewhere_4 : decode cX6_isElsewhere 4 = .ok (.istore 6, 2) := by decide +kernel
theorem dX6_isElsewhere_6 : decode cX6_isElsewhere 6 = .ok (.iload 6, 2) := by decide +kernel
theorem dX6_isElsewhere_8 : decode cX6_isElsewhere 8 = .ok (.aload_n 0, 1) := by decide +kernel
theorem dX6_isElsewhere_9 : decode cX6_isElsewhere 9 = .ok (.getfield 7, 3) := by decide +kernel
theorem dX6_isElsewhere_12 : decode cX6_isElsewhere 12 = .ok (.if_icmp .ge 39, 3) := by decide +kernel
theorem dX6_isElsewhere_15 : decode cX6_isElsewhere 15 = .ok (.iload 5, 2) := by decide +kernel
theorem dX6_isElsewhere_17 : decode cX6_isElsewhere 17 = .ok (.iload 6, 2) := by decide +kernel
theorem dX6_isElsewhere_19 : decode cX6_isElsewhere 19 = .ok (.iload_n 1, 1) := by decide +kernel
theorem dX6_isElsewhere_20 : decode cX6_isElsewhere 20 = .ok (.if_icmp .eq 21, 3) := by decide +kernel
theorem dX6_isElsewhere_23 : decode cX6_isElsewhere 23 = .ok (.aload_n 0, 1) := by decide +kernel
theorem dX6_isElsewhere_24 : decode cX6_isElsewhere 24 = .ok (.iload 6, 2) := by decide +kernel
theorem dX6_isElsewhere_26 : decode cX6_isElsewhere 26 = .ok (.lload_n 2, 1) := by decide +kernel
theorem dX6_isElsewhere_27 : decode cX6_isElsewhere 27 = .ok (.iload 4, 2) := by decide +kernel
theorem dX6_isElsewhere_29 : decode cX6_isElsewhere 29 = .ok (.invokevirtual 203, 3) := by decide +kernel
theorem dX6_isElsewhere_32 : decode cX6_isElsewhere 32 = .ok (.bipush (-9), 2) := by decide +kernel
theorem dX6_isElsewhere_34 : decode cX6_isElsewhere 34 = .ok (.if_icmp .eq 7, 3) := by decide +kernel
theorem dX6_isElsewhere_37 : decode cX6_isElsewhere 37 = .ok (.iconst 1, 1) := by decide +kernel
theorem dX6_isElsewhere_38 : decode cX6_isElsewhere 38 = .ok (.goto 4, 3) := by decide +kernel
theorem dX6_isElsewhere_41 : decode cX6_isElsewhere 41 = .ok (.iconst 0, 1) := by decide +kernel
theorem dX6_isElsewhere_42 : decode cX6_isElsewhere 42 = .ok (.ior, 1) := by decide +kernel
theorem dX6_isElsewhere_43 : decode cX6_isElsewhere 43 = .ok (.istore 5, 2) := by decide +kernel
theorem dX6_isElsewhere_45 : decode cX6_isElsewhere 45 = .ok (.iinc 6 1, 3) := by decide +kernel
theorem dX6_isElsewhere_48 : decode cX6_isElsewhere 48 = .ok (.goto (-42), 3) := by decide +kernel
theorem dX6_isElsewhere_51 : decode cX6_isElsewhere 51 = .ok (.iload 5, 2) := by decide +kernel
theorem dX6_isElsewhere_53 : decode cX6_isElsewhere 53 = .ok (.ireturn, 1) := by decide +kernel
theorem dX6_fetch_0 : decode cX6_fetch 0 = .ok (.aload_n 0, 1) := by decide +kernel
theorem dX6_fetch_1 : decode cX6_fetch 1 = .ok (.iconst 0, 1) := by decide +kernel
theorem dX6_fetch_2 : decode cX6_fetch 2 = .ok (.putfield 106, 3) := by decide +kernel
theorem dX6_fetch_5 : decode cX6_fetch 5 = .ok (.aload_n 0, 1) := by decide +kernel
theorem dX6_fetch_6 : decode cX6_fetch 6 = .ok (.iload_n 1, 1) := by decide +kernel
theorem dX6_fetch_7 : decode cX6_fetch 7 = .ok (.invokevirtual 179, 3) := by decide +kernel
theorem dX6_fetch_10 : decode cX6_fetch 10 = .ok (.ifCond .eq 10, 3) := by decide +kernel
theorem dX6_fetch_13 : decode cX6_fetch 13 = .ok (.iload_n 2, 1) := by decide +kernel
theorem dX6_fetch_14 : decode cX6_fetch 14 = .ok (.invokestatic 182, 3) := by decide +kernel
theorem dX6_fetch_17 : decode cX6_fetch 17 = .ok (.ifCond .ne 5, 3) := by decide +kernel
theorem dX6_fetch_20 : decode cX6_fetch 20 = .ok (.iconst (-1), 1) := by decide +kernel
theorem dX6_fetch_21 : decode cX6_fetch 21 = .ok (.ireturn, 1) := by decide +kernel
theorem dX6_fetch_22 : decode cX6_fetch 22 = .ok (.aload_n 0, 1) := by decide +kernel
theorem dX6_fetch_23 : decode cX6_fetch 23 = .ok (.iload_n 1, 1) := by decide +kernel
theorem dX6_fetch_24 : decode cX6_fetch 24 = .ok (.invokevirtual 176, 3) := by decide +kernel
theorem dX6_fetch_27 : decode cX6_fetch 27 = .ok (.aload_n 0, 1) := by decide +kernel
theorem dX6_fetch_28 : decode cX6_fetch 28 = .ok (.iload_n 2, 1) := by decide +kernel
theorem dX6_fetch_29 : decode cX6_fetch 29 = .ok (.invokevirtual 211, 3) := by decide +kernel
theorem dX6_fetch_32 : decode cX6_fetch 32 = .ok (.ifCond .ne 6, 3) := by decide +kernel
theorem dX6_fetch_35 : decode cX6_fetch 35 = .ok (.bipush (-2), 2) := by decide +kernel
theorem dX6_fetch_37 : decode cX6_fetch 37 = .ok (.ireturn, 1) := by decide +kernel
theorem dX6_fetch_38 : decode cX6_fetch 38 = .ok (.aload_n 0, 1) := by decide +kernel
theorem dX6_fetch_39 : decode cX6_fetch 39 = .ok (.iconst 0, 1) := by decide +kernel
theorem dX6_fetch_40 : decode cX6_fetch 40 = .ok (.putfield 200, 3) := by decide +kernel
theorem dX6_fetch_43 : decode cX6_fetch 43 = .ok (.aload_n 0, 1) := by decide +kernel
theorem dX6_fetch_44 : decode cX6_fetch 44 = .ok (.iload_n 2, 1) := by decide +kernel
theorem dX6_fetch_45 : decode cX6_fetch 45 = .ok (.invokevirtual 263, 3) := by decide +kernel
theorem dX6_fetch_48 : decode cX6_fetch 48 = .ok (.iconst 0, 1) := by decide +kernel
theorem dX6_fetch_49 : decode cX6_fetch 49 = .ok (.istore_n 3, 1) := by decide +kernel
theorem dX6_fetch_50 : decode cX6_fetch 50 = .ok (.iload_n 3, 1) := by decide +kernel
theorem dX6_fetch_51 : decode cX6_fetch 51 = .ok (.aload_n 0, 1) := by decide +kernel
theorem dX6_fetch_52 : decode cX6_fetch 52 = .ok (.getfield 200, 3) := by decide +kernel
theorem dX6_fetch_55 : decode cX6_fetch 55 = .ok (.if_icmp .ge 54, 3) := by decide +kernel
theorem dX6_fetch_58 : decode cX6_fetch 58 = .ok (.aload_n 0, 1) := by decide +kernel
theorem dX6_fetch_59 : decode cX6_fetch 59 = .ok (.iload_n 1, 1) := by decide +kernel
theorem dX6_fetch_60 : decode cX6_fetch 60 = .ok (.aload_n 0, 1) := by decide +kernel
theorem dX6_fetch_61 : decode cX6_fetch 61 = .ok (.getfield 85, 3) := by decide +kernel
theorem dX6_fetch_64 : decode cX6_fetch 64 = .ok (.iload_n 3, 1) := by decide +kernel
theorem dX6_fetch_65 : decode cX6_fetch 65 = .ok (.laload, 1) := by decide +kernel
theorem dX6_fetch_66 : decode cX6_fetch 66 = .ok (.aload_n 0, 1) := by decide +kernel
theorem dX6_fetch_67 : decode cX6_fetch 67 = .ok (.getfield 88, 3) := by decide +kernel
theorem dX6_fetch_70 : decode cX6_fetch 70 = .ok (.iload_n 3, 1) := by decide +kernel
theorem dX6_fetch_71 : decode cX6_fetch 71 = .ok (.iaload, 1) := by decide +kernel
theorem dX6_fetch_72 : decode cX6_fetch 72 = .ok (.invokevirtual 203, 3) := by decide +kernel
theorem dX6_fetch_75 : decode cX6_fetch 75 = .ok (.bipush (-9), 2) := by decide +kernel
theorem dX6_fetch_77 : decode cX6_fetch 77 = .ok (.if_icmp .ne 26, 3) := by decide +kernel
theorem dX6_fetch_80 : decode cX6_fetch 80 = .ok (.aload_n 0, 1) := by decide +kernel
theorem dX6_fetch_81 : decode cX6_fetch 81 = .ok (.iload_n 1, 1) := by decide +kernel
theorem dX6_fetch_82 : decode cX6_fetch 82 = .ok (.aload_n 0, 1) := by decide +kernel
theorem dX6_fetch_83 : decode cX6_fetch 83 = .ok (.getfield 85, 3) := by decide +kernel
theorem dX6_fetch_86 : decode cX6_fetch 86 = .ok (.iload_n 3, 1) := by decide +kernel
theorem dX6_fetch_87 : decode cX6_fetch 87 = .ok (.laload, 1) := by decide +kernel
theorem dX6_fetch_88 : decode cX6_fetch 88 = .ok (.aload_n 0, 1) := by decide +kernel
theorem dX6_fetch_89 : decode cX6_fetch 89 = .ok (.getfield 88, 3) := by decide +kernel
theorem dX6_fetch_92 : decode cX6_fetch 92 = .ok (.iload_n 3, 1) := by decide +kernel
theorem dX6_fetch_93 : decode cX6_fetch 93 = .ok (.iaload, 1) := by decide +kernel
theorem dX6_fetch_94 : decode cX6_fetch 94 = .ok (.invokevirtual 266, 3) := by decide +kernel
theorem dX6_fetch_97 : decode cX6_fetch 97 = .ok (.ifCond .ne 6, 3) := by decide +kernel
theorem dX6_fetch_100 : decode cX6_fetch 100 = .ok (.bipush (-2), 2) := by decide +kernel
theorem dX6_fetch_102 : decode cX6_fetch 102 = .ok (.ireturn, 1) := by decide +kernel
theorem dX6_fetch_103 : decode cX6_fetch 103 = .ok (.iinc 3 1, 3) := by decide +kernel
theorem dX6_fetch_106 : decode cX6_fetch 106 = .ok (.goto (-56), 3) := by decide +kernel
theorem dX6_fetch_109 : decode cX6_fetch 109 = .ok (.aload_n 0, 1) := by decide +kernel
theorem dX6_fetch_110 : decode cX6_fetch 110 = .ok (.iload_n 1, 1) := by decide +kernel
theorem dX6_fetch_111 : decode cX6_fetch 111 = .ok (.invokevirtual 218, 3) := by decide +kernel
theorem dX6_fetch_114 : decode cX6_fetch 114 = .ok (.istore_n 3, 1) := by decide +kernel
theorem dX6_fetch_115 : decode cX6_fetch 115 = .ok (.aload_n 0, 1) := by decide +kernel
theorem dX6_fetch_116 : decode cX6_fetch 116 = .ok (.iload_n 1, 1) := by decide +kernel
theorem dX6_fetch_117 : decode cX6_fetch 117 = .ok (.invokevirtual 214, 3) := by decide +kernel
theorem dX6_fetch_120 : decode cX6_fetch 120 = .ok (.iload_n 3, 1) := by decide +kernel
theorem dX6_fetch_121 : decode cX6_fetch 121 = .ok (.iadd, 1) := by decide +kernel
theorem dX6_fetch_122 : decode cX6_fetch 122 = .ok (.aload_n 0, 1) := by decide +kernel
theorem dX6_fetch_123 : decode cX6_fetch 123 = .ok (.getfield 73, 3) := by decide +kernel
theorem dX6_fetch_126 : decode cX6_fetch 126 = .ok (.iload_n 1, 1) := by decide +kernel
theorem dX6_fetch_127 : decode cX6_fetch 127 = .ok (.iaload, 1) := by decide +kernel
theorem dX6_fetch_128 : decode cX6_fetch 128 = .ok (.if_icmp .le 6, 3) := by decide +kernel
theorem dX6_fetch_131 : decode cX6_fetch 131 = .ok (.bipush (-2), 2) := by decide +kernel
theorem dX6_fetch_133 : decode cX6_fetch 133 = .ok (.ireturn, 1) := by decide +kernel
theorem dX6_fetch_134 : decode cX6_fetch 134 = .ok (.aload_n 0, 1) := by decide +kernel
theorem dX6_fetch_135 : decode cX6_fetch 135 = .ok (.iload_n 1, 1) := by decide +kernel
theorem dX6_fetch_136 : decode cX6_fetch 136 = .ok (.invokevirtual 221, 3) := by decide +kernel
theorem dX6_fetch_139 : decode cX6_fetch 139 = .ok (.iload_n 3, 1) := by decide +kernel
theorem dX6_fetch_140 : decode cX6_fetch 140 = .ok (.ireturn, 1) := by decide +kernel
theorem dX6_away_0 : decode cX6_away 0 = .ok (.aload_n 0, 1) := by decide +kernel
theorem dX6_away_1 : decode cX6_away 1 = .ok (.iconst 0, 1) := by decide +kernel
theorem dX6_away_2 : decode cX6_away 2 = .ok (.putfield 106, 3) := by decide +kernel
theorem dX6_away_5 : decode cX6_away 5 = .ok (.aload_n 0, 1) := by decide +kernel
theorem dX6_away_6 : decode cX6_away 6 = .ok (.iload_n 1, 1) := by decide +kernel
theorem dX6_away_7 : decode cX6_away 7 = .ok (.invokevirtual 179, 3) := by decide +kernel
theorem dX6_away_10 : decode cX6_away 10 = .ok (.ifCond .eq 10, 3) := by decide +kernel
theorem dX6_away_13 : decode cX6_away 13 = .ok (.iload_n 2, 1) := by decide +kernel
theorem dX6_away_14 : decode cX6_away 14 = .ok (.invokestatic 182, 3) := by decide +kernel
theorem dX6_away_17 : decode cX6_away 17 = .ok (.ifCond .ne 5, 3) := by decide +kernel
theorem dX6_away_20 : decode cX6_away 20 = .ok (.iconst (-1), 1) := by decide +kernel
theorem dX6_away_21 : decode cX6_away 21 = .ok (.ireturn, 1) := by decide +kernel
theorem dX6_away_22 : decode cX6_away 22 = .ok (.aload_n 0, 1) := by decide +kernel
theorem dX6_away_23 : decode cX6_away 23 = .ok (.iload_n 1, 1) := by decide +kernel
theorem dX6_away_24 : decode cX6_away 24 = .ok (.invokevirtual 176, 3) := by decide +kernel
theorem dX6_away_27 : decode cX6_away 27 = .ok (.aload_n 0, 1) := by decide +kernel
theorem dX6_away_28 : decode cX6_away 28 = .ok (.iload_n 2, 1) := by decide +kernel
theorem dX6_away_29 : decode cX6_away 29 = .ok (.invokevirtual 211, 3) := by decide +kernel
theorem dX6_away_32 : decode cX6_away 32 = .ok (.ifCond .ne 6, 3) := by decide +kernel
theorem dX6_away_35 : decode cX6_away 35 = .ok (.bipush (-2), 2) := by decide +kernel
theorem dX6_away_37 : decode cX6_away 37 = .ok (.ireturn, 1) := by decide +kernel
theorem dX6_away_38 : decode cX6_away 38 = .ok (.aload_n 0, 1) := by decide +kernel
theorem dX6_away_39 : decode cX6_away 39 = .ok (.iconst 0, 1) := by decide +kernel
theorem dX6_away_40 : decode cX6_away 40 = .ok (.putfield 200, 3) := by decide +kernel
theorem dX6_away_43 : decode cX6_away 43 = .ok (.iconst 1, 1) := by decide +kernel
theorem dX6_away_44 : decode cX6_away 44 = .ok (.istore_n 3, 1) := by decide +kernel
theorem dX6_away_45 : decode cX6_away 45 = .ok (.iload_n 3, 1) := by decide +kernel
theorem dX6_away_46 : decode cX6_away 46 = .ok (.bipush 12, 2) := by decide +kernel
theorem dX6_away_48 : decode cX6_away 48 = .ok (.if_icmp .ge 27, 3) := by decide +kernel
theorem dX6_away_51 : decode cX6_away 51 = .ok (.iload_n 3, 1) := by decide +kernel
theorem dX6_away_52 : decode cX6_away 52 = .ok (.iload_n 2, 1) := by decide +kernel
theorem dX6_away_53 : decode cX6_away 53 = .ok (.if_icmp .eq 16, 3) := by decide +kernel
theorem dX6_away_56 : decode cX6_away 56 = .ok (.aload_n 0, 1) := by decide +kernel
theorem dX6_away_57 : decode cX6_away 57 = .ok (.iload_n 3, 1) := by decide +kernel
theorem dX6_away_58 : decode cX6_away 58 = .ok (.invokevirtual 211, 3) := by decide +kernel
theorem dX6_away_61 : decode cX6_away 61 = .ok (.ifCond .eq 8, 3) := by decide +kernel
theorem dX6_away_64 : decode cX6_away 64 = .ok (.aload_n 0, 1) := by decide +kernel
theorem dX6_away_65 : decode cX6_away 65 = .ok (.iload_n 3, 1) := by decide +kernel
theorem dX6_away_66 : decode cX6_away 66 = .ok (.invokevirtual 263, 3) := by decide +kernel
theorem dX6_away_69 : decode cX6_away 69 = .ok (.iinc 3 1, 3) := by decide +kernel
theorem dX6_away_72 : decode cX6_away 72 = .ok (.goto (-27), 3) := by decide +kernel
theorem dX6_away_75 : decode cX6_away 75 = .ok (.aload_n 0, 1) := by decide +kernel
theorem dX6_away_76 : decode cX6_away 76 = .ok (.getfield 200, 3) := by decide +kernel
theorem dX6_away_79 : decode cX6_away 79 = .ok (.istore_n 3, 1) := by decide +kernel
theorem dX6_away_80 : decode cX6_away 80 = .ok (.aload_n 0, 1) := by decide +kernel
theorem dX6_away_81 : decode cX6_away 81 = .ok (.iload_n 2, 1) := by decide +kernel
theorem dX6_away_82 : decode cX6_away 82 = .ok (.invokevirtual 263, 3) := by decide +kernel
theorem dX6_away_85 : decode cX6_away 85 = .ok (.iconst 0, 1) := by decide +kernel
theorem dX6_away_86 : decode cX6_away 86 = .ok (.istore 4, 2) := by decide +kernel
theorem dX6_away_88 : decode cX6_away 88 = .ok (.iload_n 3, 1) := by decide +kernel
theorem dX6_away_89 : decode cX6_away 89 = .ok (.istore 5, 2) := by decide +kernel
theorem dX6_away_91 : decode cX6_away 91 = .ok (.iload 5, 2) := by decide +kernel
theorem dX6_away_93 : decode cX6_away 93 = .ok (.aload_n 0, 1) := by decide +kernel
theorem dX6_away_94 : decode cX6_away 94 = .ok (.getfield 200, 3) := by decide +kernel
theorem dX6_away_97 : decode cX6_away 97 = .ok (.if_icmp .ge 70, 3) := by decide +kernel
theorem dX6_away_100 : decode cX6_away 100 = .ok (.aload_n 0, 1) := by decide +kernel
theorem dX6_away_101 : decode cX6_away 101 = .ok (.iload_n 1, 1) := by decide +kernel
theorem dX6_away_102 : decode cX6_away 102 = .ok (.aload_n 0, 1) := by decide +kernel
theorem dX6_away_103 : decode cX6_away 103 = .ok (.getfield 85, 3) := by decide +kernel
theorem dX6_away_106 : decode cX6_away 106 = .ok (.iload 5, 2) := by decide +kernel
theorem dX6_away_108 : decode cX6_away 108 = .ok (.laload, 1) := by decide +kernel
theorem dX6_away_109 : decode cX6_away 109 = .ok (.aload_n 0, 1) := by decide +kernel
theorem dX6_away_110 : decode cX6_away 110 = .ok (.getfield 88, 3) := by decide +kernel
theorem dX6_away_113 : decode cX6_away 113 = .ok (.iload 5, 2) := by decide +kernel
theorem dX6_away_115 : decode cX6_away 115 = .ok (.iaload, 1) := by decide +kernel
theorem dX6_away_116 : decode cX6_away 116 = .ok (.invokevirtual 203, 3) := by decide +kernel
theorem dX6_away_119 : decode cX6_away 119 = .ok (.bipush (-9), 2) := by decide +kernel
theorem dX6_away_121 : decode cX6_away 121 = .ok (.if_icmp .eq 40, 3) := by decide +kernel
theorem dX6_away_124 : decode cX6_away 124 = .ok (.aload_n 0, 1) := by decide +kernel
theorem dX6_away_125 : decode cX6_away 125 = .ok (.iload_n 1, 1) := by decide +kernel
theorem dX6_away_126 : decode cX6_away 126 = .ok (.aload_n 0, 1) := by decide +kernel
theorem dX6_away_127 : decode cX6_away 127 = .ok (.getfield 85, 3) := by decide +kernel
theorem dX6_away_130 : decode cX6_away 130 = .ok (.iload 5, 2) := by decide +kernel
theorem dX6_away_132 : decode cX6_away 132 = .ok (.laload, 1) := by decide +kernel
theorem dX6_away_133 : decode cX6_away 133 = .ok (.aload_n 0, 1) := by decide +kernel
theorem dX6_away_134 : decode cX6_away 134 = .ok (.getfield 88, 3) := by decide +kernel
theorem dX6_away_137 : decode cX6_away 137 = .ok (.iload 5, 2) := by decide +kernel
theorem dX6_away_139 : decode cX6_away 139 = .ok (.iaload, 1) := by decide +kernel
theorem dX6_away_140 : decode cX6_away 140 = .ok (.invokevirtual 266, 3) := by decide +kernel
theorem dX6_away_143 : decode cX6_away 143 = .ok (.ifCond .ne 6, 3) := by decide +kernel
theorem dX6_away_146 : decode cX6_away 146 = .ok (.bipush (-2), 2) := by decide +kernel
theorem dX6_away_148 : decode cX6_away 148 = .ok (.ireturn, 1) := by decide +kernel
theorem dX6_away_149 : decode cX6_away 149 = .ok (.iload 4, 2) := by decide +kernel
theorem dX6_away_151 : decode cX6_away 151 = .ok (.aload_n 0, 1) := by decide +kernel
theorem dX6_away_152 : decode cX6_away 152 = .ok (.getfield 88, 3) := by decide +kernel
theorem dX6_away_155 : decode cX6_away 155 = .ok (.iload 5, 2) := by decide +kernel
theorem dX6_away_157 : decode cX6_away 157 = .ok (.iaload, 1) := by decide +kernel
theorem dX6_away_158 : decode cX6_away 158 = .ok (.iadd, 1) := by decide +kernel
theorem dX6_away_159 : decode cX6_away 159 = .ok (.istore 4, 2) := by decide +kernel
theorem dX6_away_161 : decode cX6_away 161 = .ok (.iinc 5 1, 3) := by decide +kernel
theorem dX6_away_164 : decode cX6_away 164 = .ok (.goto (-73), 3) := by decide +kernel
theorem dX6_away_167 : decode cX6_away 167 = .ok (.iload_n 3, 1) := by decide +kernel
theorem dX6_away_168 : decode cX6_away 168 = .ok (.istore 5, 2) := by decide +kernel
theorem dX6_away_170 : decode cX6_away 170 = .ok (.iload 5, 2) := by decide +kernel
theorem dX6_away_172 : decode cX6_away 172 = .ok (.aload_n 0, 1) := by decide +kernel
theorem dX6_away_173 : decode cX6_away 173 = .ok (.getfield 200, 3) := by decide +kernel
theorem dX6_away_176 : decode cX6_away 176 = .ok (.if_icmp .ge 107, 3) := by decide +kernel
theorem dX6_away_179 : decode cX6_away 179 = .ok (.aload_n 0, 1) := by decide +kernel
theorem dX6_away_180 : decode cX6_away 180 = .ok (.iload_n 1, 1) := by decide +kernel
theorem dX6_away_181 : decode cX6_away 181 = .ok (.aload_n 0, 1) := by decide +kernel
theorem dX6_away_182 : decode cX6_away 182 = .ok (.getfield 85, 3) := by decide +kernel
theorem dX6_away_185 : decode cX6_away 185 = .ok (.iload 5, 2) := by decide +kernel
theorem dX6_away_187 : decode cX6_away 187 = .ok (.laload, 1) := by decide +kernel
theorem dX6_away_188 : decode cX6_away 188 = .ok (.aload_n 0, 1) := by decide +kernel
theorem dX6_away_189 : decode cX6_away 189 = .ok (.getfield 88, 3) := by decide +kernel
theorem dX6_away_192 : decode cX6_away 192 = .ok (.iload 5, 2) := by decide +kernel
theorem dX6_away_194 : decode cX6_away 194 = .ok (.iaload, 1) := by decide +kernel
theorem dX6_away_195 : decode cX6_away 195 = .ok (.invokevirtual 203, 3) := by decide +kernel
theorem dX6_away_198 : decode cX6_away 198 = .ok (.istore 6, 2) := by decide +kernel
theorem dX6_away_200 : decode cX6_away 200 = .ok (.iload 6, 2) := by decide +kernel
theorem dX6_away_202 : decode cX6_away 202 = .ok (.bipush (-9), 2) := by decide +kernel
theorem dX6_away_204 : decode cX6_away 204 = .ok (.if_icmp .eq 73, 3) := by decide +kernel
theorem dX6_away_207 : decode cX6_away 207 = .ok (.aload_n 0, 1) := by decide +kernel
theorem dX6_away_208 : decode cX6_away 208 = .ok (.getfield 76, 3) := by decide +kernel
theorem dX6_away_211 : decode cX6_away 211 = .ok (.iload_n 1, 1) := by decide +kernel
theorem dX6_away_212 : decode cX6_away 212 = .ok (.dup2, 1) := by decide +kernel
theorem dX6_away_213 : decode cX6_away 213 = .ok (.iaload, 1) := by decide +kernel
theorem dX6_away_214 : decode cX6_away 214 = .ok (.iconst 1, 1) := by decide +kernel
theorem dX6_away_215 : decode cX6_away 215 = .ok (.isub, 1) := by decide +kernel
theorem dX6_away_216 : decode cX6_away 216 = .ok (.iastore, 1) := by decide +kernel
theorem dX6_away_217 : decode cX6_away 217 = .ok (.aload_n 0, 1) := by decide +kernel
theorem dX6_away_218 : decode cX6_away 218 = .ok (.getfield 79, 3) := by decide +kernel
theorem dX6_away_221 : decode cX6_away 221 = .ok (.sipush 200, 3) := by decide +kernel
theorem dX6_away_224 : decode cX6_away 224 = .ok (.iload_n 1, 1) := by decide +kernel
theorem dX6_away_225 : decode cX6_away 225 = .ok (.imul, 1) := by decide +kernel
theorem dX6_away_226 : decode cX6_away 226 = .ok (.iload 6, 2) := by decide +kernel
theorem dX6_away_228 : decode cX6_away 228 = .ok (.iadd, 1) := by decide +kernel
theorem dX6_away_229 : decode cX6_away 229 = .ok (.aload_n 0, 1) := by decide +kernel
theorem dX6_away_230 : decode cX6_away 230 = .ok (.getfield 79, 3) := by decide +kernel
theorem dX6_away_233 : decode cX6_away 233 = .ok (.sipush 200, 3) := by decide +kernel
theorem dX6_away_236 : decode cX6_away 236 = .ok (.iload_n 1, 1) := by decide +kernel
theorem dX6_away_237 : decode cX6_away 237 = .ok (.imul, 1) := by decide +kernel
theorem dX6_away_238 : decode cX6_away 238 = .ok (.aload_n 0, 1) := by decide +kernel
theorem dX6_away_239 : decode cX6_away 239 = .ok (.getfield 76, 3) := by decide +kernel
theorem dX6_away_242 : decode cX6_away 242 = .ok (.iload_n 1, 1) := by decide +kernel
theorem dX6_away_243 : decode cX6_away 243 = .ok (.iaload, 1) := by decide +kernel
theorem dX6_away_244 : decode cX6_away 244 = .ok (.iadd, 1) := by decide +kernel
theorem dX6_away_245 : decode cX6_away 245 = .ok (.laload, 1) := by decide +kernel
theorem dX6_away_246 : decode cX6_away 246 = .ok (.lastore, 1) := by decide +kernel
theorem dX6_away_247 : decode cX6_away 247 = .ok (.aload_n 0, 1) := by decide +kernel
theorem dX6_away_248 : decode cX6_away 248 = .ok (.getfield 82, 3) := by decide +kernel
theorem dX6_away_251 : decode cX6_away 251 = .ok (.sipush 200, 3) := by decide +kernel
theorem dX6_away_254 : decode cX6_away 254 = .ok (.iload_n 1, 1) := by decide +kernel
theorem dX6_away_255 : decode cX6_away 255 = .ok (.imul, 1) := by decide +kernel
theorem dX6_away_256 : decode cX6_away 256 = .ok (.iload 6, 2) := by decide +kernel
theorem dX6_away_258 : decode cX6_away 258 = .ok (.iadd, 1) := by decide +kernel
theorem dX6_away_259 : decode cX6_away 259 = .ok (.aload_n 0, 1) := by decide +kernel
theorem dX6_away_260 : decode cX6_away 260 = .ok (.getfield 82, 3) := by decide +kernel
theorem dX6_away_263 : decode cX6_away 263 = .ok (.sipush 200, 3) := by decide +kernel
theorem dX6_away_266 : decode cX6_away 266 = .ok (.iload_n 1, 1) := by decide +kernel
theorem dX6_away_267 : decode cX6_away 267 = .ok (.imul, 1) := by decide +kernel
theorem dX6_away_268 : decode cX6_away 268 = .ok (.aload_n 0, 1) := by decide +kernel
theorem dX6_away_269 : decode cX6_away 269 = .ok (.getfield 76, 3) := by decide +kernel
theorem dX6_away_272 : decode cX6_away 272 = .ok (.iload_n 1, 1) := by decide +kernel
theorem dX6_away_273 : decode cX6_away 273 = .ok (.iaload, 1) := by decide +kernel
theorem dX6_away_274 : decode cX6_away 274 = .ok (.iadd, 1) := by decide +kernel
theorem dX6_away_275 : decode cX6_away 275 = .ok (.iaload, 1) := by decide +kernel
theorem dX6_away_276 : decode cX6_away 276 = .ok (.iastore, 1) := by decide +kernel
theorem dX6_away_277 : decode cX6_away 277 = .ok (.iinc 5 1, 3) := by decide +kernel
theorem dX6_away_280 : decode cX6_away 280 = .ok (.goto (-110), 3) := by decide +kernel
theorem dX6_away_283 : decode cX6_away 283 = .ok (.iload 4, 2) := by decide +kernel
theorem dX6_away_285 : decode cX6_away 285 = .ok (.ireturn, 1) := by decide +kernel
theorem dX6_night_0 : decode cX6_night 0 = .ok (.aload_n 0, 1) := by decide +kernel
theorem dX6_night_1 : decode cX6_night 1 = .ok (.iconst 0, 1) := by decide +kernel
theorem dX6_night_2 : decode cX6_night 2 = .ok (.putfield 106, 3) := by decide +kernel
theorem dX6_night_5 : decode cX6_night 5 = .ok (.aload_n 0, 1) := by decide +kernel
theorem dX6_night_6 : decode cX6_night 6 = .ok (.getfield 109, 3) := by decide +kernel
theorem dX6_night_9 : decode cX6_night 9 = .ok (.bipush 29, 2) := by decide +kernel
theorem dX6_night_11 : decode cX6_night 11 = .ok (.if_icmp .ne 6, 3) := by decide +kernel
theorem dX6_night_14 : decode cX6_night 14 = .ok (.bipush (-2), 2) := by decide +kernel
theorem dX6_night_16 : decode cX6_night 16 = .ok (.ireturn, 1) := by decide +kernel
theorem dX6_night_17 : decode cX6_night 17 = .ok (.iconst 0, 1) := by decide +kernel
theorem dX6_night_18 : decode cX6_night 18 = .ok (.istore_n 1, 1) := by decide +kernel
theorem dX6_night_19 : decode cX6_night 19 = .ok (.iload_n 1, 1) := by decide +kernel
theorem dX6_night_20 : decode cX6_night 20 = .ok (.bipush 16, 2) := by decide +kernel
theorem dX6_night_22 : decode cX6_night 22 = .ok (.if_icmp .ge 29, 3) := by decide +kernel
theorem dX6_night_25 : decode cX6_night 25 = .ok (.aload_n 0, 1) := by decide +kernel
theorem dX6_night_26 : decode cX6_night 26 = .ok (.getfield 27, 3) := by decide +kernel
theorem dX6_night_29 : decode cX6_night 29 = .ok (.bipush 16, 2) := by decide +kernel
theorem dX6_night_31 : decode cX6_night 31 = .ok (.aload_n 0, 1) := by decide +kernel
theorem dX6_night_32 : decode cX6_night 32 = .ok (.getfield 109, 3) := by decide +kernel
theorem dX6_night_35 : decode cX6_night 35 = .ok (.imul, 1) := by decide +kernel
theorem dX6_night_36 : decode cX6_night 36 = .ok (.iload_n 1, 1) := by decide +kernel
theorem dX6_night_37 : decode cX6_night 37 = .ok (.iadd, 1) := by decide +kernel
theorem dX6_night_38 : decode cX6_night 38 = .ok (.aload_n 0, 1) := by decide +kernel
theorem dX6_night_39 : decode cX6_night 39 = .ok (.getfield 24, 3) := by decide +kernel
theorem dX6_night_42 : decode cX6_night 42 = .ok (.iload_n 1, 1) := by decide +kernel
theorem dX6_night_43 : decode cX6_night 43 = .ok (.iaload, 1) := by decide +kernel
theorem dX6_night_44 : decode cX6_night 44 = .ok (.iastore, 1) := by decide +kernel
theorem dX6_night_45 : decode cX6_night 45 = .ok (.iinc 1 1, 3) := by decide +kernel
theorem dX6_night_48 : decode cX6_night 48 = .ok (.goto (-29), 3) := by decide +kernel
theorem dX6_night_51 : decode cX6_night 51 = .ok (.aload_n 0, 1) := by decide +kernel
theorem dX6_night_52 : decode cX6_night 52 = .ok (.dup, 1) := by decide +kernel
theorem dX6_night_53 : decode cX6_night 53 = .ok (.getfield 109, 3) := by decide +kernel
theorem dX6_night_56 : decode cX6_night 56 = .ok (.iconst 1, 1) := by decide +kernel
theorem dX6_night_57 : decode cX6_night 57 = .ok (.iadd, 1) := by decide +kernel
theorem dX6_night_58 : decode cX6_night 58 = .ok (.putfield 109, 3) := by decide +kernel
theorem dX6_night_61 : decode cX6_night 61 = .ok (.aload_n 0, 1) := by decide +kernel
theorem dX6_night_62 : decode cX6_night 62 = .ok (.getfield 109, 3) := by decide +kernel
theorem dX6_night_65 : decode cX6_night 65 = .ok (.ireturn, 1) := by decide +kernel
theorem dX6_share_0 : decode cX6_share 0 = .ok (.aload_n 0, 1) := by decide +kernel
theorem dX6_share_1 : decode cX6_share 1 = .ok (.iconst 0, 1) := by decide +kernel
theorem dX6_share_2 : decode cX6_share 2 = .ok (.putfield 106, 3) := by decide +kernel
theorem dX6_share_5 : decode cX6_share 5 = .ok (.iload_n 1, 1) := by decide +kernel
theorem dX6_share_6 : decode cX6_share 6 = .ok (.iconst 0, 1) := by decide +kernel
theorem dX6_share_7 : decode cX6_share 7 = .ok (.bipush 7, 2) := by decide +kernel
theorem dX6_share_9 : decode cX6_share 9 = .ok (.invokestatic 115, 3) := by decide +kernel
theorem dX6_share_12 : decode cX6_share 12 = .ok (.ifCond .eq 10, 3) := by decide +kernel
theorem dX6_share_15 : decode cX6_share 15 = .ok (.iload_n 2, 1) := by decide +kernel
theorem dX6_share_16 : decode cX6_share 16 = .ok (.invokestatic 182, 3) := by decide +kernel
theorem dX6_share_19 : decode cX6_share 19 = .ok (.ifCond .ne 5, 3) := by decide +kernel
theorem dX6_share_22 : decode cX6_share 22 = .ok (.iconst (-1), 1) := by decide +kernel
theorem dX6_share_23 : decode cX6_share 23 = .ok (.ireturn, 1) := by decide +kernel
theorem dX6_share_24 : decode cX6_share 24 = .ok (.aload_n 0, 1) := by decide +kernel
theorem dX6_share_25 : decode cX6_share 25 = .ok (.getfield 112, 3) := by decide +kernel
theorem dX6_share_28 : decode cX6_share 28 = .ok (.bipush 20, 2) := by decide +kernel
theorem dX6_share_30 : decode cX6_share 30 = .ok (.if_icmp .ne 6, 3) := by decide +kernel
theorem dX6_share_33 : decode cX6_share 33 = .ok (.bipush (-3), 2) := by decide +kernel
theorem dX6_share_35 : decode cX6_share 35 = .ok (.ireturn, 1) := by decide +kernel
theorem dX6_share_36 : decode cX6_share 36 = .ok (.aload_n 0, 1) := by decide +kernel
theorem dX6_share_37 : decode cX6_share 37 = .ok (.getfield 91, 3) := by decide +kernel
theorem dX6_share_40 : decode cX6_share 40 = .ok (.aload_n 0, 1) := by decide +kernel
theorem dX6_share_41 : decode cX6_share 41 = .ok (.getfield 112, 3) := by decide +kernel
theorem dX6_share_44 : decode cX6_share 44 = .ok (.iload_n 1, 1) := by decide +kernel
theorem dX6_share_45 : decode cX6_share 45 = .ok (.iastore, 1) := by decide +kernel
theorem dX6_share_46 : decode cX6_share 46 = .ok (.aload_n 0, 1) := by decide +kernel
theorem dX6_share_47 : decode cX6_share 47 = .ok (.getfield 94, 3) := by decide +kernel
theorem dX6_share_50 : decode cX6_share 50 = .ok (.aload_n 0, 1) := by decide +kernel
theorem dX6_share_51 : decode cX6_share 51 = .ok (.getfield 112, 3) := by decide +kernel
theorem dX6_share_54 : decode cX6_share 54 = .ok (.iload_n 2, 1) := by decide +kernel
theorem dX6_share_55 : decode cX6_share 55 = .ok (.iastore, 1) := by decide +kernel
theorem dX6_share_56 : decode cX6_share 56 = .ok (.aload_n 0, 1) := by decide +kernel
theorem dX6_share_57 : decode cX6_share 57 = .ok (.getfield 97, 3) := by decide +kernel
theorem dX6_share_60 : decode cX6_share 60 = .ok (.aload_n 0, 1) := by decide +kernel
theorem dX6_share_61 : decode cX6_share 61 = .ok (.getfield 112, 3) := by decide +kernel
theorem dX6_share_64 : decode cX6_share 64 = .ok (.aload_n 0, 1) := by decide +kernel
theorem dX6_share_65 : decode cX6_share 65 = .ok (.getfield 109, 3) := by decide +kernel
theorem dX6_share_68 : decode cX6_share 68 = .ok (.iastore, 1) := by decide +kernel
theorem dX6_share_69 : decode cX6_share 69 = .ok (.aload_n 0, 1) := by decide +kernel
theorem dX6_share_70 : decode cX6_share 70 = .ok (.getfield 100, 3) := by decide +kernel
theorem dX6_share_73 : decode cX6_share 73 = .ok (.aload_n 0, 1) := by decide +kernel
theorem dX6_share_74 : decode cX6_share 74 = .ok (.getfield 112, 3) := by decide +kernel
theorem dX6_share_77 : decode cX6_share 77 = .ok (.bipush (-9), 2) := by decide +kernel
theorem dX6_share_79 : decode cX6_share 79 = .ok (.iastore, 1) := by decide +kernel
theorem dX6_share_80 : decode cX6_share 80 = .ok (.aload_n 0, 1) := by decide +kernel
theorem dX6_share_81 : decode cX6_share 81 = .ok (.dup, 1) := by decide +kernel
theorem dX6_share_82 : decode cX6_share 82 = .ok (.getfield 112, 3) := by decide +kernel
theorem dX6_share_85 : decode cX6_share 85 = .ok (.iconst 1, 1) := by decide +kernel
theorem dX6_share_86 : decode cX6_share 86 = .ok (.iadd, 1) := by decide +kernel
theorem dX6_share_87 : decode cX6_share 87 = .ok (.putfield 112, 3) := by decide +kernel
theorem dX6_share_90 : decode cX6_share 90 = .ok (.aload_n 0, 1) := by decide +kernel
theorem dX6_share_91 : decode cX6_share 91 = .ok (.getfield 112, 3) := by decide +kernel
theorem dX6_share_94 : decode cX6_share 94 = .ok (.iconst 1, 1) := by decide +kernel
theorem dX6_share_95 : decode cX6_share 95 = .ok (.isub, 1) := by decide +kernel
theorem dX6_share_96 : decode cX6_share 96 = .ok (.ireturn, 1) := by decide +kernel
theorem dX6_take_0 : decode cX6_take 0 = .ok (.aload_n 0, 1) := by decide +kernel
theorem dX6_take_1 : decode cX6_take 1 = .ok (.iconst 0, 1) := by decide +kernel
theorem dX6_take_2 : decode cX6_take 2 = .ok (.putfield 106, 3) := by decide +kernel
theorem dX6_take_5 : decode cX6_take 5 = .ok (.iload_n 1, 1) := by decide +kernel
theorem dX6_take_6 : decode cX6_take 6 = .ok (.iconst 0, 1) := by decide +kernel
theorem dX6_take_7 : decode cX6_take 7 = .ok (.aload_n 0, 1) := by decide +kernel
theorem dX6_take_8 : decode cX6_take 8 = .ok (.getfield 112, 3) := by decide +kernel
theorem dX6_take_11 : decode cX6_take 11 = .ok (.iconst 1, 1) := by decide +kernel
theorem dX6_take_12 : decode cX6_take 12 = .ok (.isub, 1) := by decide +kernel
theorem dX6_take_13 : decode cX6_take 13 = .ok (.invokestatic 115, 3) := by decide +kernel
theorem dX6_take_16 : decode cX6_take 16 = .ok (.ifCond .ne 5, 3) := by decide +kernel
theorem dX6_take_19 : decode cX6_take 19 = .ok (.iconst (-1), 1) := by decide +kernel
theorem dX6_take_20 : decode cX6_take 20 = .ok (.ireturn, 1) := by decide +kernel
theorem dX6_take_21 : decode cX6_take 21 = .ok (.aload_n 0, 1) := by decide +kernel
theorem dX6_take_22 : decode cX6_take 22 = .ok (.getfield 100, 3) := by decide +kernel
theorem dX6_take_25 : decode cX6_take 25 = .ok (.iload_n 1, 1) := by decide +kernel
theorem dX6_take_26 : decode cX6_take 26 = .ok (.iaload, 1) := by decide +kernel
theorem dX6_take_27 : decode cX6_take 27 = .ok (.bipush (-9), 2) := by decide +kernel
theorem dX6_take_29 : decode cX6_take 29 = .ok (.if_icmp .eq 6, 3) := by decide +kernel
theorem dX6_take_32 : decode cX6_take 32 = .ok (.bipush (-2), 2) := by decide +kernel
theorem dX6_take_34 : decode cX6_take 34 = .ok (.ireturn, 1) := by decide +kernel
theorem dX6_take_35 : decode cX6_take 35 = .ok (.aload_n 0, 1) := by decide +kernel
theorem dX6_take_36 : decode cX6_take 36 = .ok (.getfield 100, 3) := by decide +kernel
theorem dX6_take_39 : decode cX6_take 39 = .ok (.iload_n 1, 1) := by decide +kernel
theorem dX6_take_40 : decode cX6_take 40 = .ok (.aload_n 0, 1) := by decide +kernel
theorem dX6_take_41 : decode cX6_take 41 = .ok (.getfield 109, 3) := by decide +kernel
theorem dX6_take_44 : decode cX6_take 44 = .ok (.iastore, 1) := by decide +kernel
theorem dX6_take_45 : decode cX6_take 45 = .ok (.aload_n 0, 1) := by decide +kernel
theorem dX6_take_46 : decode cX6_take 46 = .ok (.getfield 97, 3) := by decide +kernel
theorem dX6_take_49 : decode cX6_take 49 = .ok (.iload_n 1, 1) := by decide +kernel
theorem dX6_take_50 : decode cX6_take 50 = .ok (.iaload, 1) := by decide +kernel
theorem dX6_take_51 : decode cX6_take 51 = .ok (.ireturn, 1) := by decide +kernel
theorem dX6_could_0 : decode cX6_could 0 = .ok (.aload_n 0, 1) := by decide +kernel
theorem dX6_could_1 : decode cX6_could 1 = .ok (.iconst 0, 1) := by decide +kernel
theorem dX6_could_2 : decode cX6_could 2 = .ok (.putfield 106, 3) := by decide +kernel
theorem dX6_could_5 : decode cX6_could 5 = .ok (.iload_n 1, 1) := by decide +kernel
theorem dX6_could_6 : decode cX6_could 6 = .ok (.iconst 0, 1) := by decide +kernel
theorem dX6_could_7 : decode cX6_could 7 = .ok (.bipush 7, 2) := by decide +kernel
theorem dX6_could_9 : decode cX6_could 9 = .ok (.invokestatic 115, 3) := by decide +kernel
theorem dX6_could_12 : decode cX6_could 12 = .ok (.ifCond .eq 27, 3) := by decide +kernel
theorem dX6_could_15 : decode cX6_could 15 = .ok (.aload_n 0, 1) := by decide +kernel
theorem dX6_could_16 : decode cX6_could 16 = .ok (.iload_n 2, 1) := by decide +kernel
theorem dX6_could_17 : decode cX6_could 17 = .ok (.invokevirtual 179, 3) := by decide +kernel
theorem dX6_could_20 : decode cX6_could 20 = .ok (.ifCond .eq 19, 3) := by decide +kernel
theorem dX6_could_23 : decode cX6_could 23 = .ok (.iload_n 3, 1) := by decide +kernel
theorem dX6_could_24 : decode cX6_could 24 = .ok (.invokestatic 182, 3) := by decide +kernel
theorem dX6_could_27 : decode cX6_could 27 = .ok (.ifCond .eq 12, 3) := by decide +kernel
theorem dX6_could_30 : decode cX6_could 30 = .ok (.aload_n 0, 1) := by decide +kernel
theorem dX6_could_31 : decode cX6_could 31 = .ok (.iload 4, 2) := by decide +kernel
theorem dX6_could_33 : decode cX6_could 33 = .ok (.invokevirtual 224, 3) := by decide +kernel
theorem dX6_could_36 : decode cX6_could 36 = .ok (.ifCond .ne 5, 3) := by decide +kernel
theorem dX6_could_39 : decode cX6_could 39 = .ok (.iconst (-1), 1) := by decide +kernel
theorem dX6_could_40 : decode cX6_could 40 = .ok (.ireturn, 1) := by decide +kernel
theorem dX6_could_41 : decode cX6_could 41 = .ok (.aload_n 0, 1) := by decide +kernel
theorem dX6_could_42 : decode cX6_could 42 = .ok (.iload_n 2, 1) := by decide +kernel
theorem dX6_could_43 : decode cX6_could 43 = .ok (.iload 4, 2) := by decide +kernel
theorem dX6_could_45 : decode cX6_could 45 = .ok (.invokevirtual 227, 3) := by decide +kernel
theorem dX6_could_48 : decode cX6_could 48 = .ok (.aload_n 0, 1) := by decide +kernel
theorem dX6_could_49 : decode cX6_could 49 = .ok (.getfield 46, 3) := by decide +kernel
theorem dX6_could_52 : decode cX6_could 52 = .ok (.iload_n 3, 1) := by decide +kernel
theorem dX6_could_53 : decode cX6_could 53 = .ok (.baload, 1) := by decide +kernel
theorem dX6_could_54 : decode cX6_could 54 = .ok (.ifCond .ne 6, 3) := by decide +kernel
theorem dX6_could_57 : decode cX6_could 57 = .ok (.bipush (-2), 2) := by decide +kernel
theorem dX6_could_59 : decode cX6_could 59 = .ok (.ireturn, 1) := by decide +kernel
theorem dX6_could_60 : decode cX6_could 60 = .ok (.iconst 0, 1) := by decide +kernel
theorem dX6_could_61 : decode cX6_could 61 = .ok (.istore 5, 2) := by decide +kernel
theorem dX6_could_63 : decode cX6_could 63 = .ok (.iconst 0, 1) := by decide +kernel
theorem dX6_could_64 : decode cX6_could 64 = .ok (.istore 6, 2) := by decide +kernel
theorem dX6_could_66 : decode cX6_could 66 = .ok (.iload 6, 2) := by decide +kernel
theorem dX6_could_68 : decode cX6_could 68 = .ok (.aload_n 0, 1) := by decide +kernel
theorem dX6_could_69 : decode cX6_could 69 = .ok (.getfield 112, 3) := by decide +kernel
theorem dX6_could_72 : decode cX6_could 72 = .ok (.if_icmp .ge 81, 3) := by decide +kernel
theorem dX6_could_75 : decode cX6_could 75 = .ok (.iload 5, 2) := by decide +kernel
theorem dX6_could_77 : decode cX6_could 77 = .ok (.aload_n 0, 1) := by decide +kernel
theorem dX6_could_78 : decode cX6_could 78 = .ok (.getfield 91, 3) := by decide +kernel
theorem dX6_could_81 : decode cX6_could 81 = .ok (.iload 6, 2) := by decide +kernel
theorem dX6_could_83 : decode cX6_could 83 = .ok (.iaload, 1) := by decide +kernel
theorem dX6_could_84 : decode cX6_could 84 = .ok (.iload_n 1, 1) := by decide +kernel
theorem dX6_could_85 : decode cX6_could 85 = .ok (.if_icmp .ne 58, 3) := by decide +kernel
theorem dX6_could_88 : decode cX6_could 88 = .ok (.aload_n 0, 1) := by decide +kernel
theorem dX6_could_89 : decode cX6_could 89 = .ok (.getfield 97, 3) := by decide +kernel
theorem dX6_could_92 : decode cX6_could 92 = .ok (.iload 6, 2) := by decide +kernel
theorem dX6_could_94 : decode cX6_could 94 = .ok (.iaload, 1) := by decide +kernel
theorem dX6_could_95 : decode cX6_could 95 = .ok (.iload 4, 2) := by decide +kernel
theorem dX6_could_97 : decode cX6_could 97 = .ok (.if_icmp .gt 46, 3) := by decide +kernel
theorem dX6_could_100 : decode cX6_could 100 = .ok (.aload_n 0, 1) := by decide +kernel
theorem dX6_could_101 : decode cX6_could 101 = .ok (.getfield 100, 3) := by decide +kernel
theorem dX6_could_104 : decode cX6_could 104 = .ok (.iload 6, 2) := by decide +kernel
theorem dX6_could_106 : decode cX6_could 106 = .ok (.iaload, 1) := by decide +kernel
theorem dX6_could_107 : decode cX6_could 107 = .ok (.bipush (-9), 2) := by decide +kernel
theorem dX6_could_109 : decode cX6_could 109 = .ok (.if_icmp .eq 15, 3) := by decide +kernel
theorem dX6_could_112 : decode cX6_could 112 = .ok (.aload_n 0, 1) := by decide +kernel
theorem dX6_could_113 : decode cX6_could 113 = .ok (.getfield 100, 3) := by decide +kernel
theorem dX6_could_116 : decode cX6_could 116 = .ok (.iload 6, 2) := by decide +kernel
theorem dX6_could_118 : decode cX6_could 118 = .ok (.iaload, 1) := by decide +kernel
theorem dX6_could_119 : decode cX6_could 119 = .ok (.iload 4, 2) := by decide +kernel
theorem dX6_could_121 : decode cX6_could 121 = .ok (.if_icmp .le 22, 3) := by decide +kernel
theorem dX6_could_124 : decode cX6_could 124 = .ok (.aload_n 0, 1) := by decide +kernel
theorem dX6_could_125 : decode cX6_could 125 = .ok (.iload_n 3, 1) := by decide +kernel
theorem dX6_could_126 : decode cX6_could 126 = .ok (.aload_n 0, 1) := by decide +kernel
theorem dX6_could_127 : decode cX6_could 127 = .ok (.getfield 94, 3) := by decide +kernel
theorem dX6_could_130 : decode cX6_could 130 = .ok (.iload 6, 2) := by decide +kernel
theorem dX6_could_132 : decode cX6_could 132 = .ok (.iaload, 1) := by decide +kernel
theorem dX6_could_133 : decode cX6_could 133 = .ok (.invokevirtual 130, 3) := by decide +kernel
theorem dX6_could_136 : decode cX6_could 136 = .ok (.ifCond .eq 7, 3) := by decide +kernel
theorem dX6_could_139 : decode cX6_could 139 = .ok (.iconst 1, 1) := by decide +kernel
theorem dX6_could_140 : decode cX6_could 140 = .ok (.goto 4, 3) := by decide +kernel
theorem dX6_could_143 : decode cX6_could 143 = .ok (.iconst 0, 1) := by decide +kernel
theorem dX6_could_144 : decode cX6_could 144 = .ok (.ior, 1) := by decide +kernel
theorem dX6_could_145 : decode cX6_could 145 = .ok (.istore 5, 2) := by decide +kernel
theorem dX6_could_147 : decode cX6_could 147 = .ok (.iinc 6 1, 3) := by decide +kernel
theorem dX6_could_150 : decode cX6_could 150 = .ok (.goto (-84), 3) := by decide +kernel
theorem dX6_could_153 : decode cX6_could 153 = .ok (.iload 5, 2) := by decide +kernel
theorem dX6_could_155 : decode cX6_could 155 = .ok (.ifCond .eq 7, 3) := by decide +kernel
theorem dX6_could_158 : decode cX6_could 158 = .ok (.iconst 1, 1) := by decide +kernel
theorem dX6_could_159 : decode cX6_could 159 = .ok (.goto 4, 3) := by decide +kernel
theorem dX6_could_162 : decode cX6_could 162 = .ok (.iconst 0, 1) := by decide +kernel
theorem dX6_could_163 : decode cX6_could 163 = .ok (.ireturn, 1) := by decide +kernel
theorem dX6_power_0 : decode cX6_power 0 = .ok (.lconst 1, 1) := by decide +kernel
theorem dX6_power_1 : decode cX6_power 1 = .ok (.lstore_n 2, 1) := by decide +kernel
theorem dX6_power_2 : decode cX6_power 2 = .ok (.iconst 0, 1) := by decide +kernel
theorem dX6_power_3 : decode cX6_power 3 = .ok (.istore 4, 2) := by decide +kernel
theorem dX6_power_5 : decode cX6_power 5 = .ok (.iload 4, 2) := by decide +kernel
theorem dX6_power_7 : decode cX6_power 7 = .ok (.iload_n 1, 1) := by decide +kernel
theorem dX6_power_8 : decode cX6_power 8 = .ok (.if_icmp .ge 14, 3) := by decide +kernel
theorem dX6_power_11 : decode cX6_power 11 = .ok (.lload_n 2, 1) := by decide +kernel
theorem dX6_power_12 : decode cX6_power 12 = .ok (.iload_n 0, 1) := by decide +kernel
theorem dX6_power_13 : decode cX6_power 13 = .ok (.i2l, 1) := by decide +kernel
theorem dX6_power_14 : decode cX6_power 14 = .ok (.lmul, 1) := by decide +kernel
theorem dX6_power_15 : decode cX6_power 15 = .ok (.lstore_n 2, 1) := by decide +kernel
theorem dX6_power_16 : decode cX6_power 16 = .ok (.iinc 4 1, 3) := by decide +kernel
theorem dX6_power_19 : decode cX6_power 19 = .ok (.goto (-14), 3) := by decide +kernel
theorem dX6_power_22 : decode cX6_power 22 = .ok (.lload_n 2, 1) := by decide +kernel
theorem dX6_power_23 : decode cX6_power 23 = .ok (.lreturn, 1) := by decide +kernel
theorem dX6_choose_0 : decode cX6_choose 0 = .ok (.lconst 1, 1) := by decide +kernel
theorem dX6_choose_1 : decode cX6_choose 1 = .ok (.lstore_n 2, 1) := by decide +kernel
theorem dX6_choose_2 : decode cX6_choose 2 = .ok (.iconst 1, 1) := by decide +kernel
theorem dX6_choose_3 : decode cX6_choose 3 = .ok (.istore 4, 2) := by decide +kernel
theorem dX6_choose_5 : decode cX6_choose 5 = .ok (.iload 4, 2) := by decide +kernel
theorem dX6_choose_7 : decode cX6_choose 7 = .ok (.iload_n 1, 1) := by decide +kernel
theorem dX6_choose_8 : decode cX6_choose 8 = .ok (.if_icmp .gt 23, 3) := by decide +kernel
theorem dX6_choose_11 : decode cX6_choose 11 = .ok (.lload_n 2, 1) := by decide +kernel
theorem dX6_choose_12 : decode cX6_choose 12 = .ok (.iload_n 0, 1) := by decide +kernel
theorem dX6_choose_13 : decode cX6_choose 13 = .ok (.iload_n 1, 1) := by decide +kernel
theorem dX6_choose_14 : decode cX6_choose 14 = .ok (.isub, 1) := by decide +kernel
theorem dX6_choose_15 : decode cX6_choose 15 = .ok (.iload 4, 2) := by decide +kernel
theorem dX6_choose_17 : decode cX6_choose 17 = .ok (.iadd, 1) := by decide +kernel
theorem dX6_choose_18 : decode cX6_choose 18 = .ok (.i2l, 1) := by decide +kernel
theorem dX6_choose_19 : decode cX6_choose 19 = .ok (.lmul, 1) := by decide +kernel
theorem dX6_choose_20 : decode cX6_choose 20 = .ok (.iload 4, 2) := by decide +kernel
theorem dX6_choose_22 : decode cX6_choose 22 = .ok (.i2l, 1) := by decide +kernel
theorem dX6_choose_23 : decode cX6_choose 23 = .ok (.ldiv, 1) := by decide +kernel
theorem dX6_choose_24 : decode cX6_choose 24 = .ok (.lstore_n 2, 1) := by decide +kernel
theorem dX6_choose_25 : decode cX6_choose 25 = .ok (.iinc 4 1, 3) := by decide +kernel
theorem dX6_choose_28 : decode cX6_choose 28 = .ok (.goto (-23), 3) := by decide +kernel
theorem dX6_choose_31 : decode cX6_choose 31 = .ok (.lload_n 2, 1) := by decide +kernel
theorem dX6_choose_32 : decode cX6_choose 32 = .ok (.lreturn, 1) := by decide +kernel
theorem dX6_odd_0 : decode cX6_odd 0 = .ok (.aload_n 0, 1) := by decide +kernel
theorem dX6_odd_1 : decode cX6_odd 1 = .ok (.iconst 0, 1) := by decide +kernel
theorem dX6_odd_2 : decode cX6_odd 2 = .ok (.putfield 106, 3) := by decide +kernel
theorem dX6_odd_5 : decode cX6_odd 5 = .ok (.aload_n 0, 1) := by decide +kernel
theorem dX6_odd_6 : decode cX6_odd 6 = .ok (.iload_n 1, 1) := by decide +kernel
theorem dX6_odd_7 : decode cX6_odd 7 = .ok (.invokevirtual 179, 3) := by decide +kernel
theorem dX6_odd_10 : decode cX6_odd 10 = .ok (.ifCond .eq 20, 3) := by decide +kernel
theorem dX6_odd_13 : decode cX6_odd 13 = .ok (.aload_n 0, 1) := by decide +kernel
theorem dX6_odd_14 : decode cX6_odd 14 = .ok (.iload_n 2, 1) := by decide +kernel
theorem dX6_odd_15 : decode cX6_odd 15 = .ok (.invokevirtual 224, 3) := by decide +kernel
theorem dX6_odd_18 : decode cX6_odd 18 = .ok (.ifCond .eq 12, 3) := by decide +kernel
theorem dX6_odd_21 : decode cX6_odd 21 = .ok (.iload_n 3, 1) := by decide +kernel
theorem dX6_odd_22 : decode cX6_odd 22 = .ok (.iconst 0, 1) := by decide +kernel
theorem dX6_odd_23 : decode cX6_odd 23 = .ok (.iconst 1, 1) := by decide +kernel
theorem dX6_odd_24 : decode cX6_odd 24 = .ok (.invokestatic 115, 3) := by decide +kernel
theorem dX6_odd_27 : decode cX6_odd 27 = .ok (.ifCond .ne 7, 3) := by decide +kernel
theorem dX6_odd_30 : decode cX6_odd 30 = .ok (.ldc2_w 270, 3) := by decide +kernel
theorem dX6_odd_33 : decode cX6_odd 33 = .ok (.lreturn, 1) := by decide +kernel
theorem dX6_odd_34 : decode cX6_odd 34 = .ok (.aload_n 0, 1) := by decide +kernel
theorem dX6_odd_35 : decode cX6_odd 35 = .ok (.getfield 13, 3) := by decide +kernel
theorem dX6_odd_38 : decode cX6_odd 38 = .ok (.iload_n 1, 1) := by decide +kernel
theorem dX6_odd_39 : decode cX6_odd 39 = .ok (.iaload, 1) := by decide +kernel
theorem dX6_odd_40 : decode cX6_odd 40 = .ok (.istore 4, 2) := by decide +kernel
theorem dX6_odd_42 : decode cX6_odd 42 = .ok (.aload_n 0, 1) := by decide +kernel
theorem dX6_odd_43 : decode cX6_odd 43 = .ok (.getfield 109, 3) := by decide +kernel
theorem dX6_odd_46 : decode cX6_odd 46 = .ok (.iconst 1, 1) := by decide +kernel
theorem dX6_odd_47 : decode cX6_odd 47 = .ok (.iadd, 1) := by decide +kernel
theorem dX6_odd_48 : decode cX6_odd 48 = .ok (.bipush 8, 2) := by decide +kernel
theorem dX6_odd_50 : decode cX6_odd 50 = .ok (.if_icmp .gt 10, 3) := by decide +kernel
theorem dX6_odd_53 : decode cX6_odd 53 = .ok (.iload 4, 2) := by decide +kernel
theorem dX6_odd_55 : decode cX6_odd 55 = .ok (.bipush 12, 2) := by decide +kernel
theorem dX6_odd_57 : decode cX6_odd 57 = .ok (.if_icmp .le 7, 3) := by decide +kernel
theorem dX6_odd_60 : decode cX6_odd 60 = .ok (.ldc2_w 272, 3) := by decide +kernel
theorem dX6_odd_63 : decode cX6_odd 63 = .ok (.lreturn, 1) := by decide +kernel
theorem dX6_odd_64 : decode cX6_odd 64 = .ok (.iload_n 3, 1) := by decide +kernel
theorem dX6_odd_65 : decode cX6_odd 65 = .ok (.iconst 1, 1) := by decide +kernel
theorem dX6_odd_66 : decode cX6_odd 66 = .ok (.if_icmp .ne 15, 3) := by decide +kernel
theorem dX6_odd_69 : decode cX6_odd 69 = .ok (.aload_n 0, 1) := by decide +kernel
theorem dX6_odd_70 : decode cX6_odd 70 = .ok (.getfield 109, 3) := by decide +kernel
theorem dX6_odd_73 : decode cX6_odd 73 = .ok (.iconst 1, 1) := by decide +kernel
theorem dX6_odd_74 : decode cX6_odd 74 = .ok (.iadd, 1) := by decide +kernel
theorem dX6_odd_75 : decode cX6_odd 75 = .ok (.iload 4, 2) := by decide +kernel
theorem dX6_odd_77 : decode cX6_odd 77 = .ok (.invokestatic 274, 3) := by decide +kernel
theorem dX6_odd_80 : decode cX6_odd 80 = .ok (.lreturn, 1) := by decide +kernel
theorem dX6_odd_81 : decode cX6_odd 81 = .ok (.iconst 0, 1) := by decide +kernel
theorem dX6_odd_82 : decode cX6_odd 82 = .ok (.istore 5, 2) := by decide +kernel
theorem dX6_odd_84 : decode cX6_odd 84 = .ok (.iconst 0, 1) := by decide +kernel
theorem dX6_odd_85 : decode cX6_odd 85 = .ok (.istore 6, 2) := by decide +kernel
theorem dX6_odd_87 : decode cX6_odd 87 = .ok (.iload 6, 2) := by decide +kernel
theorem dX6_odd_89 : decode cX6_odd 89 = .ok (.iload 4, 2) := by decide +kernel
theorem dX6_odd_91 : decode cX6_odd 91 = .ok (.if_icmp .ge 36, 3) := by decide +kernel
theorem dX6_odd_94 : decode cX6_odd 94 = .ok (.iload 5, 2) := by decide +kernel
theorem dX6_odd_96 : decode cX6_odd 96 = .ok (.aload_n 0, 1) := by decide +kernel
theorem dX6_odd_97 : decode cX6_odd 97 = .ok (.getfield 17, 3) := by decide +kernel
theorem dX6_odd_100 : decode cX6_odd 100 = .ok (.iload_n 1, 1) := by decide +kernel
theorem dX6_odd_101 : decode cX6_odd 101 = .ok (.iload 6, 2) := by decide +kernel
theorem dX6_odd_103 : decode cX6_odd 103 = .ok (.invokestatic 119, 3) := by decide +kernel
theorem dX6_odd_106 : decode cX6_odd 106 = .ok (.iconst 5, 1) := by decide +kernel
theorem dX6_odd_107 : decode cX6_odd 107 = .ok (.iadd, 1) := by decide +kernel
theorem dX6_odd_108 : decode cX6_odd 108 = .ok (.iaload, 1) := by decide +kernel
theorem dX6_odd_109 : decode cX6_odd 109 = .ok (.iload_n 2, 1) := by decide +kernel
theorem dX6_odd_110 : decode cX6_odd 110 = .ok (.if_icmp .ne 7, 3) := by decide +kernel
theorem dX6_odd_113 : decode cX6_odd 113 = .ok (.iconst 1, 1) := by decide +kernel
theorem dX6_odd_114 : decode cX6_odd 114 = .ok (.goto 4, 3) := by decide +kernel
theorem dX6_odd_117 : decode cX6_odd 117 = .ok (.iconst 0, 1) := by decide +kernel
theorem dX6_odd_118 : decode cX6_odd 118 = .ok (.iadd, 1) := by decide +kernel
theorem dX6_odd_119 : decode cX6_odd 119 = .ok (.istore 5, 2) := by decide +kernel
theorem dX6_odd_121 : decode cX6_odd 121 = .ok (.iinc 6 1, 3) := by decide +kernel
theorem dX6_odd_124 : decode cX6_odd 124 = .ok (.goto (-37), 3) := by decide +kernel
theorem dX6_odd_127 : decode cX6_odd 127 = .ok (.lconst 0, 1) := by decide +kernel
theorem dX6_odd_128 : decode cX6_odd 128 = .ok (.lstore 6, 2) := by decide +kernel
theorem dX6_odd_130 : decode cX6_odd 130 = .ok (.iload 5, 2) := by decide +kernel
theorem dX6_odd_132 : decode cX6_odd 132 = .ok (.istore 8, 2) := by decide +kernel
theorem dX6_odd_134 : decode cX6_odd 134 = .ok (.iload 8, 2) := by decide +kernel
theorem dX6_odd_136 : decode cX6_odd 136 = .ok (.iload 4, 2) := by decide +kernel
theorem dX6_odd_138 : decode cX6_odd 138 = .ok (.if_icmp .gt 34, 3) := by decide +kernel
theorem dX6_odd_141 : decode cX6_odd 141 = .ok (.lload 6, 2) := by decide +kernel
theorem dX6_odd_143 : decode cX6_odd 143 = .ok (.iload 4, 2) := by decide +kernel
theorem dX6_odd_145 : decode cX6_odd 145 = .ok (.iload 8, 2) := by decide +kernel
theorem dX6_odd_147 : decode cX6_odd 147 = .ok (.invokestatic 278, 3) := by decide +kernel
theorem dX6_odd_150 : decode cX6_odd 150 = .ok (.aload_n 0, 1) := by decide +kernel
theorem dX6_odd_151 : decode cX6_odd 151 = .ok (.getfield 109, 3) := by decide +kernel
theorem dX6_odd_154 : decode cX6_odd 154 = .ok (.iload 4, 2) := by decide +kernel
theorem dX6_odd_156 : decode cX6_odd 156 = .ok (.iload 8, 2) := by decide +kernel
theorem dX6_odd_158 : decode cX6_odd 158 = .ok (.isub, 1) := by decide +kernel
theorem dX6_odd_159 : decode cX6_odd 159 = .ok (.invokestatic 274, 3) := by decide +kernel
theorem dX6_odd_162 : decode cX6_odd 162 = .ok (.lmul, 1) := by decide +kernel
theorem dX6_odd_163 : decode cX6_odd 163 = .ok (.ladd, 1) := by decide +kernel
theorem dX6_odd_164 : decode cX6_odd 164 = .ok (.lstore 6, 2) := by decide +kernel
end
section
theorem dX6_odd_166 : decode cX6_odd 166 = .ok (.iinc 8 1, 3) := by decide +kernel
theorem dX6_odd_169 : decode cX6_odd 169 = .ok (.goto (-35), 3) := by decide +kernel
theorem dX6_odd_172 : decode cX6_odd 172 = .ok (.lload 6, 2) := by decide +kernel
theorem dX6_odd_174 : decode cX6_odd 174 = .ok (.lreturn, 1) := by decide +kernel
theorem dX6_count_0 : decode cX6_count 0 = .ok (.aload_n 0, 1) := by decide +kernel
theorem dX6_count_1 : decode cX6_count 1 = .ok (.iconst 0, 1) := by decide +kernel
theorem dX6_count_2 : decode cX6_count 2 = .ok (.putfield 106, 3) := by decide +kernel
theorem dX6_count_5 : decode cX6_count 5 = .ok (.iconst 0, 1) := by decide +kernel
theorem dX6_count_6 : decode cX6_count 6 = .ok (.istore_n 2, 1) := by decide +kernel
theorem dX6_count_7 : decode cX6_count 7 = .ok (.iconst 0, 1) := by decide +kernel
theorem dX6_count_8 : decode cX6_count 8 = .ok (.istore_n 3, 1) := by decide +kernel
theorem dX6_count_9 : decode cX6_count 9 = .ok (.iconst 0, 1) := by decide +kernel
theorem dX6_count_10 : decode cX6_count 10 = .ok (.istore 4, 2) := by decide +kernel
theorem dX6_count_12 : decode cX6_count 12 = .ok (.iload 4, 2) := by decide +kernel
theorem dX6_count_14 : decode cX6_count 14 = .ok (.aload_n 0, 1) := by decide +kernel
theorem dX6_count_15 : decode cX6_count 15 = .ok (.getfield 7, 3) := by decide +kernel
theorem dX6_count_18 : decode cX6_count 18 = .ok (.if_icmp .ge 19, 3) := by decide +kernel
theorem dX6_count_21 : decode cX6_count 21 = .ok (.iload_n 2, 1) := by decide +kernel
theorem dX6_count_22 : decode cX6_count 22 = .ok (.aload_n 0, 1) := by decide +kernel
theorem dX6_count_23 : decode cX6_count 23 = .ok (.getfield 13, 3) := by decide +kernel
theorem dX6_count_26 : decode cX6_count 26 = .ok (.iload 4, 2) := by decide +kernel
theorem dX6_count_28 : decode cX6_count 28 = .ok (.iaload, 1) := by decide +kernel
theorem dX6_count_29 : decode cX6_count 29 = .ok (.iadd, 1) := by decide +kernel
theorem dX6_count_30 : decode cX6_count 30 = .ok (.istore_n 2, 1) := by decide +kernel
theorem dX6_count_31 : decode cX6_count 31 = .ok (.iinc 4 1, 3) := by decide +kernel
theorem dX6_count_34 : decode cX6_count 34 = .ok (.goto (-22), 3) := by decide +kernel
theorem dX6_count_37 : decode cX6_count 37 = .ok (.iconst 0, 1) := by decide +kernel
theorem dX6_count_38 : decode cX6_count 38 = .ok (.istore 4, 2) := by decide +kernel
theorem dX6_count_40 : decode cX6_count 40 = .ok (.iload 4, 2) := by decide +kernel
theorem dX6_count_42 : decode cX6_count 42 = .ok (.aload_n 0, 1) := by decide +kernel
theorem dX6_count_43 : decode cX6_count 43 = .ok (.getfield 112, 3) := by decide +kernel
theorem dX6_count_46 : decode cX6_count 46 = .ok (.if_icmp .ge 29, 3) := by decide +kernel
theorem dX6_count_49 : decode cX6_count 49 = .ok (.iload_n 3, 1) := by decide +kernel
theorem dX6_count_50 : decode cX6_count 50 = .ok (.aload_n 0, 1) := by decide +kernel
theorem dX6_count_51 : decode cX6_count 51 = .ok (.getfield 100, 3) := by decide +kernel
theorem dX6_count_54 : decode cX6_count 54 = .ok (.iload 4, 2) := by decide +kernel
theorem dX6_count_56 : decode cX6_count 56 = .ok (.iaload, 1) := by decide +kernel
theorem dX6_count_57 : decode cX6_count 57 = .ok (.bipush (-9), 2) := by decide +kernel
theorem dX6_count_59 : decode cX6_count 59 = .ok (.if_icmp .ne 7, 3) := by decide +kernel
theorem dX6_count_62 : decode cX6_count 62 = .ok (.iconst 1, 1) := by decide +kernel
theorem dX6_count_63 : decode cX6_count 63 = .ok (.goto 4, 3) := by decide +kernel
theorem dX6_count_66 : decode cX6_count 66 = .ok (.iconst 0, 1) := by decide +kernel
theorem dX6_count_67 : decode cX6_count 67 = .ok (.iadd, 1) := by decide +kernel
theorem dX6_count_68 : decode cX6_count 68 = .ok (.istore_n 3, 1) := by decide +kernel
theorem dX6_count_69 : decode cX6_count 69 = .ok (.iinc 4 1, 3) := by decide +kernel
theorem dX6_count_72 : decode cX6_count 72 = .ok (.goto (-32), 3) := by decide +kernel
theorem dX6_count_75 : decode cX6_count 75 = .ok (.iload_n 1, 1) := by decide +kernel
theorem dX6_count_76 : decode cX6_count 76 = .ok (.ifCond .ne 10, 3) := by decide +kernel
theorem dX6_count_79 : decode cX6_count 79 = .ok (.aload_n 0, 1) := by decide +kernel
theorem dX6_count_80 : decode cX6_count 80 = .ok (.getfield 7, 3) := by decide +kernel
theorem dX6_count_83 : decode cX6_count 83 = .ok (.goto 63, 3) := by decide +kernel
theorem dX6_count_86 : decode cX6_count 86 = .ok (.iload_n 1, 1) := by decide +kernel
theorem dX6_count_87 : decode cX6_count 87 = .ok (.iconst 1, 1) := by decide +kernel
theorem dX6_count_88 : decode cX6_count 88 = .ok (.if_icmp .ne 7, 3) := by decide +kernel
theorem dX6_count_91 : decode cX6_count 91 = .ok (.iload_n 2, 1) := by decide +kernel
theorem dX6_count_92 : decode cX6_count 92 = .ok (.goto 54, 3) := by decide +kernel
theorem dX6_count_95 : decode cX6_count 95 = .ok (.iload_n 1, 1) := by decide +kernel
theorem dX6_count_96 : decode cX6_count 96 = .ok (.iconst 2, 1) := by decide +kernel
theorem dX6_count_97 : decode cX6_count 97 = .ok (.if_icmp .ne 10, 3) := by decide +kernel
theorem dX6_count_100 : decode cX6_count 100 = .ok (.aload_n 0, 1) := by decide +kernel
theorem dX6_count_101 : decode cX6_count 101 = .ok (.getfield 109, 3) := by decide +kernel
theorem dX6_count_104 : decode cX6_count 104 = .ok (.goto 42, 3) := by decide +kernel
theorem dX6_count_107 : decode cX6_count 107 = .ok (.iload_n 1, 1) := by decide +kernel
theorem dX6_count_108 : decode cX6_count 108 = .ok (.iconst 3, 1) := by decide +kernel
theorem dX6_count_109 : decode cX6_count 109 = .ok (.if_icmp .ne 7, 3) := by decide +kernel
theorem dX6_count_112 : decode cX6_count 112 = .ok (.iload_n 3, 1) := by decide +kernel
theorem dX6_count_113 : decode cX6_count 113 = .ok (.goto 33, 3) := by decide +kernel
theorem dX6_count_116 : decode cX6_count 116 = .ok (.iload_n 1, 1) := by decide +kernel
theorem dX6_count_117 : decode cX6_count 117 = .ok (.iconst 4, 1) := by decide +kernel
theorem dX6_count_118 : decode cX6_count 118 = .ok (.if_icmp .ne 10, 3) := by decide +kernel
theorem dX6_count_121 : decode cX6_count 121 = .ok (.aload_n 0, 1) := by decide +kernel
theorem dX6_count_122 : decode cX6_count 122 = .ok (.getfield 134, 3) := by decide +kernel
theorem dX6_count_125 : decode cX6_count 125 = .ok (.goto 21, 3) := by decide +kernel
theorem dX6_count_128 : decode cX6_count 128 = .ok (.iload_n 1, 1) := by decide +kernel
theorem dX6_count_129 : decode cX6_count 129 = .ok (.iconst 5, 1) := by decide +kernel
theorem dX6_count_130 : decode cX6_count 130 = .ok (.if_icmp .ne 15, 3) := by decide +kernel
theorem dX6_count_133 : decode cX6_count 133 = .ok (.aload_n 0, 1) := by decide +kernel
theorem dX6_count_134 : decode cX6_count 134 = .ok (.aload_n 0, 1) := by decide +kernel
theorem dX6_count_135 : decode cX6_count 135 = .ok (.getfield 13, 3) := by decide +kernel
theorem dX6_count_138 : decode cX6_count 138 = .ok (.iconst 0, 1) := by decide +kernel
theorem dX6_count_139 : decode cX6_count 139 = .ok (.invokevirtual 259, 3) := by decide +kernel
theorem dX6_count_142 : decode cX6_count 142 = .ok (.goto 4, 3) := by decide +kernel
theorem dX6_count_145 : decode cX6_count 145 = .ok (.iconst (-1), 1) := by decide +kernel
theorem dX6_count_146 : decode cX6_count 146 = .ok (.ireturn, 1) := by decide +kernel
theorem dX6_trace_0 : decode cX6_trace 0 = .ok (.aload_n 0, 1) := by decide +kernel
theorem dX6_trace_1 : decode cX6_trace 1 = .ok (.iconst 0, 1) := by decide +kernel
theorem dX6_trace_2 : decode cX6_trace 2 = .ok (.putfield 106, 3) := by decide +kernel
theorem dX6_trace_5 : decode cX6_trace 5 = .ok (.aload_n 0, 1) := by decide +kernel
theorem dX6_trace_6 : decode cX6_trace 6 = .ok (.getfield 236, 3) := by decide +kernel
theorem dX6_trace_9 : decode cX6_trace 9 = .ok (.lreturn, 1) := by decide +kernel
end
section
/-! THE ABSTRACT MACHINE: ints are Int within bounds, longs Int64, references are numbers of cells; a world is a fixed layout of cells at b, b+1, .. -/
abbrev fw_V : Type := Int ⊕ (Int64 ⊕ Int)
abbrev fw_i (x : Int) : fw_V := Sum.inl x
abbrev fw_l (x : Int64) : fw_V := Sum.inr (Sum.inl x)
abbrev fw_r (k : Int) : fw_V := Sum.inr (Sum.inr k)
abbrev fw_F : Type := Int → Int → Int
abbrev fw_G : Type := Int → Int → Int64
def fw_ok (x : Int) : Prop := -2147483648 ≤ x ∧ x ≤ 2147483647
def fw_okV (v : fw_V) : Prop := match v with
  | .inl x => fw_ok x
  | .inr _ => True
def fw_cv (b : Nat) (v : fw_V) : Value := match v with
  | .inl x => .int (Int32.ofInt x)
  | .inr (.inl x) => .long x
  | .inr (.inr k) => .ref (b + k.toNat)
def fw_cat (v : fw_V) : Nat := match v with
  | .inl _ => 1
  | .inr (.inl _) => 2
  | .inr (.inr _) => 1
theorem fw_cv_cat (b : Nat) (v : fw_V) : (fw_cv b v).category = fw_cat v := by
  rcases v with x | x | x <;> rfl
theorem fw_toInt {x : Int} (h : fw_ok x) : (Int32.ofInt x).toInt = x := Int32.toInt_ofInt_of_le (by have := h.1; omega) (by have := h.2; omega)
theorem fw_le {x y : Int} (hx : fw_ok x) (hy : fw_ok y) : Int32.ofInt x ≤ Int32.ofInt y ↔ x ≤ y := by rw [Int32.le_iff_toInt_le, fw_toInt hx, fw_toInt hy]
theorem fw_lt {x y : Int} (hx : fw_ok x) (hy : fw_ok y) : Int32.ofInt x < Int32.ofInt y ↔ x < y := by rw [Int32.lt_iff_toInt_lt, fw_toInt hx, fw_toInt hy]
theorem fw_eq {x y : Int} (hx : fw_ok x) (hy : fw_ok y) : Int32.ofInt x = Int32.ofInt y ↔ x = y := by rw [← Int32.toInt_inj, fw_toInt hx, fw_toInt hy]
theorem fw_ok32 (x : Int32) : fw_ok x.toInt := ⟨by have := x.le_toInt; omega, by have := x.toInt_lt; omega⟩
theorem fw_ok0 : fw_ok 0 := ⟨by decide, by decide⟩
theorem fw_zero : (0 : Int32) = Int32.ofInt 0 := rfl
theorem fw_in {x : Int} {n : Nat} (h0 : 0 ≤ x) (h1 : x < n) (hx : fw_ok x) : vp_in (Int32.ofInt x) n := vp_in_iff.mpr (by rw [fw_toInt hx]; exact ⟨h0, h1⟩)
theorem fw_clamp {x : Int} (hx : fw_ok x) : (Int32.ofInt x).toNatClampNeg = x.toNat := Int32.toNatClampNeg_ofInt_of_le (by have := hx.1; omega) (by have := hx.2; omega)
/-- locals by position -/
def fw_lc (b : Nat) : Nat → List (Option fw_V) → List (Nat × Value)
  | _, [] => []
  | i, none :: t => fw_lc b (i + 1) t
  | i, some v :: t => (i, fw_cv b v) :: fw_lc b (i + 1) t
theorem fw_lc_mem {b : Nat} {ls : List (Option fw_V)} : ∀ {n i : Nat} {x : Value}, (i, x) ∈ fw_lc b n ls ↔ ∃ (j : Nat) (v : fw_V), i = n + j ∧ ls[j]? = some (some v) ∧ x = fw_cv b v := by
  induction ls with
  | nil =>
    intro n i x
    simp [fw_lc]
  | cons a t ih =>
    intro n i x
    cases a with
    | none =>
      show (i, x) ∈ fw_lc b (n + 1) t ↔ _
      rw [ih]
      constructor
      · rintro ⟨j, v, h1, h2, h3⟩
        exact ⟨j + 1, v, by omega, by simpa using h2, h3⟩
      · rintro ⟨j, v, h1, h2, h3⟩
        cases j with
        | zero => simp at h2
        | succ j => exact ⟨j, v, by omega, by simpa using h2, h3⟩
    | some w =>
      show (i, x) ∈ (n, fw_cv b w) :: fw_lc b (n + 1) t ↔ _
      rw [List.mem_cons, ih]
      constructor
      · rintro (h | ⟨j, v, h1, h2, h3⟩)
        · cases h
          exact ⟨0, w, by omega, by simp, rfl⟩
        · exact ⟨j + 1, v, by omega, by simpa using h2, h3⟩
      · rintro ⟨j, v, h1, h2, h3⟩
        cases j with
        | zero =>
          left
          simp at h2
          subst h2
          subst h3
          simp at h1
          rw [h1]
        | succ j => exact Or.inr ⟨j, v, by omega, by simpa using h2, h3⟩
theorem fw_ld {b nL i : Nat} {ls : List (Option fw_V)} {la : Array Slot} {v : fw_V} (h : lv_has la nL (fw_lc b 0 ls)) (hi : ls[i]? = some (some v)) : la[i]? = some (.val (fw_cv b v)) :=
  h.2.2 (i, fw_cv b v) (fw_lc_mem.mpr ⟨i, v, by omega, hi, rfl⟩)
theorem fw_has_sub {nL : Nat} {la : Array Slot} {l l' : List (Nat × Value)} (h : lv_has la nL l) (hs : ∀ q ∈ l', q ∈ l) : lv_has la nL l' := ⟨h.1, h.2.1, fun q hq => h.2.2 q (hs q hq)⟩
def fw_st1 : List (Option fw_V) → Nat → fw_V → List (Option fw_V)
  | [], 0, v => [some v]
  | [], i + 1, v => none :: fw_st1 [] i v
  | _ :: t, 0, v => some v :: t
  | a :: t, i + 1, v => (match i, a with
    | 0, some (.inr (.inl _)) => none
    | _, _ => a) :: fw_st1 t i v
def fw_no : List (Option fw_V) → Nat → List (Option fw_V)
  | [], _ => []
  | _ :: t, 0 => none :: t
  | a :: t, i + 1 => a :: fw_no t i
theorem fw_st1_at : ∀ (ls : List (Option fw_V)) (i : Nat) (v : fw_V) (j : Nat) (u : fw_V), (fw_st1 ls i v)[j]? = some (some u) → (j = i ∧ u = v) ∨ (j ≠ i ∧ ls[j]? = some (some u) ∧ ¬ (j + 1 = i ∧ fw_cat u = 2))
  | [], 0, v, j, u => by
    intro h
    cases j with
    | zero => left; simp [fw_st1] at h; exact ⟨rfl, h.symm⟩
    | succ j => simp [fw_st1] at h
  | [], i + 1, v, j, u => by
    intro h
    cases j with
    | zero => simp [fw_st1] at h
    | succ j =>
      have h' : (fw_st1 [] i v)[j]? = some (some u) := by simpa [fw_st1] using h
      rcases fw_st1_at [] i v j u h' with ⟨a, b⟩ | ⟨_, b, _⟩
      · exact Or.inl ⟨by omega, b⟩
      · simp at b
  | a :: t, 0, v, j, u => by
    intro h
    cases j with
    | zero => left; simp [fw_st1] at h; exact ⟨rfl, h.symm⟩
    | succ j => right; simp [fw_st1] at h; exact ⟨by omega, by simpa using h, by omega⟩
  | a :: t, i + 1, v, j, u => by
    intro h
    cases j with
    | succ j =>
      have h' : (fw_st1 t i v)[j]? = some (some u) := by simpa [fw_st1] using h
      rcases fw_st1_at t i v j u h' with ⟨a, b⟩ | ⟨c1, c2, c3⟩
      · exact Or.inl ⟨by omega, b⟩
      · exact Or.inr ⟨by omega, by simpa using c2, fun q => c3 ⟨by omega, q.2⟩⟩
    | zero =>
      right
      rcases i with _ | i
      · rcases a with _ | x | x | x
        · simp [fw_st1] at h
        · simp [fw_st1] at h; subst h; exact ⟨by omega, by simp, fun q => by simp [fw_cat] at q⟩
        · simp [fw_st1] at h
        · simp [fw_st1] at h; subst h; exact ⟨by omega, by simp, fun q => by simp [fw_cat] at q⟩
      · simp [fw_st1] at h; subst h; exact ⟨by omega, by simp, by omega⟩
theorem fw_no_at : ∀ (ls : List (Option fw_V)) (i j : Nat) (u : fw_V), (fw_no ls i)[j]? = some (some u) → j ≠ i ∧ ls[j]? = some (some u)
  | [], i, j, u => by intro h; simp [fw_no] at h
  | a :: t, 0, j, u => by
    intro h
    cases j with
    | zero => simp [fw_no] at h
    | succ j => exact ⟨by omega, by simpa [fw_no] using h⟩
  | a :: t, i + 1, j, u => by
    intro h
    cases j with
    | zero => exact ⟨by omega, by simpa [fw_no] using h⟩
    | succ j =>
      obtain ⟨h1, h2⟩ := fw_no_at t i j u (by simpa [fw_no] using h)
      exact ⟨by omega, by simpa using h2⟩
def fw_st2 (ls : List (Option fw_V)) (i : Nat) (v : fw_V) : List (Option fw_V) := fw_no (fw_st1 ls i v) (i + 1)
/-! worlds -/
def fw_vv (tag : Nat) (b : Nat) (r m : Int) (l : Int64) : Value := match tag with
  | 0 => .int (Int32.ofInt m)
  | 1 => .long l
  | _ => if r < 0 then .null else .ref (b + r.toNat)
def fw_ftg (ci f : Nat) : Nat := match ci with
  | 0 => if f = 0 then 2 else if f = 11 then 1 else 0
  | 1 => if f < 6 then 2 else 0
  | 2 => if f < 2 then 2 else 0
  | 3 => if f < 4 then 2 else 0
  | 4 => 2
  | 5 => if f < 7 then 2 else if f = 9 then 1 else 0
  | _ => if f = 1 then 1 else if f = 0 ∨ f = 2 ∨ f = 3 ∨ f = 4 ∨ f = 28 ∨ f = 31 then 0 else 2
def fw_atg (kind : Nat) : Nat := if kind = 12 then 1 else if kind < 12 then 0 else 2
def fw_layC (k : Int) : Nat × Nat :=
  if k < 8 then (match k.toNat with
    | 0 => (5, 10)
    | 1 => (1, 8)
    | 2 => (13, 80)
    | 3 => (10, 80)
    | 5 => (10, 480)
    | _ => (10, 4))
  else if k < 168 then (if (k - 8) % 2 = 0 then (0, 12) else (10, 4))
  else if k < 179 then (match (k - 168).toNat with
    | 0 => (4, 10)
    | 1 => (11, 12)
    | 2 => (11, 12)
    | 9 => (10, 48)
    | 10 => (14, 4)
    | _ => (10, 12))
  else if k < 191 then (if (k - 179) % 3 = 0 then (2, 4) else if (k - 179) % 3 = 1 then (12, 200) else (10, 200))
  else (match (k - 191).toNat with
    | 0 => (2, 4)
    | 1 => (12, 32)
    | 2 => (10, 32)
    | 3 => (2, 4)
    | 4 => (12, 384)
    | 5 => (10, 384)
    | 6 => (10, 4)
    | 7 => (3, 5)
    | _ => (10, 20))
def fw_layD (k : Int) : Nat × Nat := match k.toNat with
  | 0 => (6, 36)
  | 1 => (10, 4)
  | 2 => (10, 960)
  | 3 => (12, 80)
  | 4 => (10, 16)
  | 5 => (10, 480)
  | 6 => (10, 4)
  | 7 => (10, 4)
  | 8 => (10, 4)
  | 9 => (10, 4)
  | 10 => (11, 12)
  | 11 => (11, 12)
  | 18 => (10, 192)
  | 19 => (11, 12)
  | 20 => (10, 4)
  | 21 => (10, 4)
  | 22 => (12, 800)
  | 23 => (10, 800)
  | 24 => (12, 704)
  | 25 => (10, 704)
  | 26 => (10, 20)
  | 27 => (10, 20)
  | 28 => (10, 20)
  | 29 => (10, 20)
  | _ => (10, 12)
def fw_lay (w : Nat) (k : Int) : Nat × Nat := match w with
  | 0 => fw_layC k
  | _ => fw_layD k
def fw_KW (w : Nat) : Nat := match w with
  | 0 => 203
  | _ => 30
def fw_cell (D : va_G) (cA : Nat → ClassId) (b w : Nat) (R M : fw_F) (L : fw_G) (H : Heap) (k : Nat) : Prop :=
  ((fw_lay w k).1 < 10 → t_OB (b + k) (D.1 (fw_lay w k).1) (fw_lay w k).2 (D.2 (fw_lay w k).1) H (fun f => fw_vv (fw_ftg (fw_lay w k).1 f) b (R k f) (M k f) (L k f))) ∧
  (10 ≤ (fw_lay w k).1 → H[b + k]? = some (arrV (cA ((fw_lay w k).1 - 10)) (fw_lay w k).2 (fun j => fw_vv (fw_atg (fw_lay w k).1) b (R k j) (M k j) (L k j))))
def fw_Wd (D : va_G) (cA : Nat → ClassId) (b w K : Nat) (R M : fw_F) (L : fw_G) (H : Heap) : Prop := ∀ k : Nat, k < K → fw_cell D cA b w R M L H k
/-! methods: name, code, locals, answer, class number, world, room (frames, locals), cells and slots that it makes -/
abbrev fw_M : Type := MethodName × ByteArray × Nat × Option FieldType × Nat × Nat × Nat × Nat × Nat × Nat
def fw_mN (y : fw_M) : MethodName := y.1
def fw_mC (y : fw_M) : ByteArray := y.2.1
def fw_mL (y : fw_M) : Nat := y.2.2.1
def fw_mT (y : fw_M) : Option FieldType := y.2.2.2.1
def fw_mO (y : fw_M) : Nat := y.2.2.2.2.1
def fw_mW (y : fw_M) : Nat := y.2.2.2.2.2.1
def fw_mF (y : fw_M) : Nat := y.2.2.2.2.2.2.1
def fw_mX (y : fw_M) : Nat := y.2.2.2.2.2.2.2.1
def fw_mc (y : fw_M) : Nat := y.2.2.2.2.2.2.2.2.1
def fw_ms (y : fw_M) : Nat := y.2.2.2.2.2.2.2.2.2
def fw_rm (y : fw_M) : Room := { frames := fw_mF y, cells := fw_mc y, slots := fw_ms y, locals := fw_mX y }
def fw_cn (o : Nat) : String := match o with
  | 0 => RX0
  | 1 => RX1
  | 2 => RX2
  | 3 => RX3
  | 4 => RX4
  | 5 => RX5
  | _ => RX6
def fw_tbl : List Cond := lw_tbl.filter goodWord
theorem fw_tbl_of {w : Cond} (h : w ∈ lw_tbl) (g : goodWord w = true) : w ∈ fw_tbl := List.mem_filter.mpr ⟨h, g⟩
theorem fw_tbl_in {w : Cond} (h : w ∈ fw_tbl) : w ∈ lw_tbl := (List.mem_filter.mp h).1
theorem fw_tbl_good {w : Cond} (h : w ∈ fw_tbl) : goodWord w = true := (List.mem_filter.mp h).2
def fw_ws (y : fw_M) : List Cond := Cond.code (fw_mN y) (fw_mC y) (fw_mL y) (fw_mT y) :: fw_tbl
def fw_tys (cA : Nat → ClassId) : List (ClassId × FieldType) := [(cA 0, .int), (cA 1, .boolean), (cA 2, .long), (cA 3, .object "FolderRows$Change"), (cA 4, .object "FolderRows$PieceSet")]
def fw_nest (s : State) : Prop := va_Nw (.methodLinkNest RX1 33 yX0_init "FolderRows") s ∧ va_Nw (.methodLinkNest RX5 47 yX3_init "FolderRows") s ∧ va_Nw (.methodLinkNest RX2 40 yX5_byteOf "FolderRows") s ∧ va_Nw (.methodLinkNest RX4 149 yX5_byteOf "FolderRows") s
def fw_KK (D : va_G) (cA : Nat → ClassId) (s : State) : Prop := va_K D vwCl (fw_tys cA) s ∧ fw_nest s
theorem fw_KK.moved {D : va_G} {cA : Nat → ClassId} {s U : State} (hW : s.WarmedH U.vm) (h : fw_KK D cA s) : fw_KK D cA U :=
  ⟨va_K.moved hW.alike h.1, va_Nw.warmM hW h.2.1, va_Nw.warmM hW h.2.2.1, va_Nw.warmM hW h.2.2.2.1, va_Nw.warmM hW h.2.2.2.2⟩
theorem fw_KK.same {D : va_G} {cA : Nat → ClassId} {s U : State} (hW : s.vm = U.vm) (h : fw_KK D cA s) : fw_KK D cA U :=
  ⟨va_K.moved (by rw [hW]; exact Vm.Alike.refl _) h.1, va_Nw.same rfl hW h.2.1, va_Nw.same rfl hW h.2.2.1, va_Nw.same rfl hW h.2.2.2.1, va_Nw.same rfl hW h.2.2.2.2⟩
def fw_A (b w : Nat) : Nat → Prop := fun q => b ≤ q ∧ q < b + fw_KW w
abbrev fw_Q : Type := Option fw_V → Nat → fw_F → fw_F → fw_G → Prop
def fw_QC (y : fw_M) (D : va_G) (cA : Nat → ClassId) (b K0 : Nat) (Q : fw_Q) : Array Value → State → Outcome → State → Prop := fun _ st o t =>
  (∃ (r : Option fw_V) (K' : Nat) (R' M' : fw_F) (L' : fw_G), o = .returned (r.map (fw_cv b)) ∧ Q r K' R' M' L' ∧ (∀ v, r = some v → fw_okV v) ∧ (∀ k j, fw_ok (M' k j)) ∧ K' = K0 + fw_mc y ∧ t.heap.size = st.heap.size + fw_mc y ∧ fw_Wd D cA b (fw_mW y) K' R' M' L' t.heap) ∧ va_F (fw_A b (fw_mW y)) st t
def fw_PC (y : fw_M) (D : va_G) (cA : Nat → ClassId) (b K0 : Nat) (R M : fw_F) (L : fw_G) (As : List fw_V) : Array Value → State → Prop := fun v U =>
  v = (As.map (fw_cv b)).toArray ∧ fw_Wd D cA b (fw_mW y) K0 R M L U.heap ∧ fw_KK D cA U ∧ b + K0 ≤ U.heap.size ∧ (0 < fw_mc y → U.heap.size = b + K0)
theorem fw_blind {y : fw_M} {D : va_G} {cA : Nat → ClassId} {b K0 : Nat} {R M : fw_F} {L : fw_G} {As : List fw_V} : FrameBlind (fw_PC y D cA b K0 R M L As) :=
  fun a U g mk h => ⟨h.1, h.2.1, fw_KK.same rfl h.2.2.1, h.2.2.2.1, h.2.2.2.2⟩
def fw_Z (y : fw_M) (D : va_G) (cA : Nat → ClassId) (p : Program) (s : State) (m : MethodId) (args : Array Value) (meth : Method) (c : Code) (b K0 : Nat) : Prop :=
  p.tables.exec = Jvm.exec ∧ c.code = fw_mC y ∧ meth.sig.returnType = fw_mT y ∧ c.maxLocals = fw_mL y ∧ s.vm.findClass (fw_cn (fw_mO y)) = some m.cls ∧ (∀ w ∈ fw_tbl, w.before args s = true) ∧ meth.locks = false ∧ meth.name = (fw_mN y).name ∧ fw_KK D cA s ∧ b + K0 ≤ s.heap.size ∧ (0 < fw_mc y → s.heap.size = b + K0)
def fw_Y (y : fw_M) (D : va_G) (cA : Nat → ClassId) (b K0 K : Nat) (R M : fw_F) (L : fw_G) (ls : List (Option fw_V)) (s : State) (H : Heap) (locs : List Loc) (la : Array Slot) : Prop :=
  (∀ v, some v ∈ ls → fw_okV v) ∧ (∀ k j, fw_ok (M k j)) ∧ fw_Wd D cA b (fw_mW y) K R M L H ∧ (K0 ≤ K ∧ H.size = s.heap.size + (K - K0)) ∧ va_S (fw_A b (fw_mW y)) s.heap H locs ∧ lv_has la (fw_mL y) (fw_lc b 0 ls)
def fw_WP (y : fw_M) (K0 pc : Nat) (ls : List (Option fw_V)) (st : List fw_V) (K sl : Nat) (R M : fw_F) (L : fw_G) (Q : fw_Q) : Prop :=
  ∀ (l : Launch) (D : va_G) (cA : Nat → ClassId) (p : Program) (e : Env) (s : State) (m : MethodId) (args : Array Value) (below : List Frame) (meth : Method) (c : Code) (b : Nat) (H : Heap) (locs : List Loc) (la : Array Slot),
    fw_Z y D cA p s m args meth c b K0 → (∀ v ∈ st, fw_okV v) → fw_Y y D cA b K0 K R M L ls s H locs la →
    W p l e (fw_rm y) s m args below meth c H locs (K - K0) sl (MQ below (fw_QC y D cA b K0 Q) args s (fw_mc y) (fw_ms y) (fw_A b (fw_mW y))) (F0 m pc la (st.map (fw_cv b)))
def fw_SP (y : fw_M) (As : List fw_V) (K0 : Nat) (R M : fw_F) (L : fw_G) (Q : fw_Q) : Prop :=
  (∀ v ∈ As, fw_okV v) → (∀ k j, fw_ok (M k j)) → ∀ (l : Launch) (D : va_G) (cA : Nat → ClassId) (b : Nat),
    Met l (fw_mN y) (fw_ws y) (fw_rm y) (fw_PC y D cA b K0 R M L As) (fw_QC y D cA b K0 Q) (fw_mc y) (fw_ms y) (fw_A b (fw_mW y))
end
section
theorem fw_oc {v : fw_V} {st : List fw_V} (h : fw_okV v) (hs : ∀ v ∈ st, fw_okV v) : ∀ x ∈ v :: st, fw_okV x := fun x hx => by
  rcases List.mem_cons.mp hx with rfl | hx
  · exact h
  · exact hs x hx
theorem fw_ot {v : fw_V} {st : List fw_V} (h : ∀ x ∈ v :: st, fw_okV x) : ∀ x ∈ st, fw_okV x := fun x hx => h x (List.mem_cons_of_mem _ hx)
theorem fw_oh {v : fw_V} {st : List fw_V} (h : ∀ x ∈ v :: st, fw_okV x) : fw_okV v := h v List.mem_cons_self
theorem fw_ol {ls : List (Option fw_V)} {i : Nat} {v : fw_V} (h : ∀ v, some v ∈ ls → fw_okV v) (hi : ls[i]? = some (some v)) : fw_okV v := h v (List.mem_of_getElem? hi)
theorem fw_okl {x : Int64} : fw_okV (fw_l x) := True.intro
theorem fw_okr {x : Int} : fw_okV (fw_r x) := True.intro
def fw_and (a b : Int) : Int := (Int32.ofInt a &&& Int32.ofInt b).toInt
def fw_or (a b : Int) : Int := (Int32.ofInt a ||| Int32.ofInt b).toInt
def fw_shl (a b : Int) : Int := (Int32.ofInt a <<< (Int32.ofInt b &&& 31)).toInt
theorem fw_div32 {a b : Int} (ha : fw_ok a) (hb : fw_ok b) (h0 : 0 ≤ a) (h1 : 0 < b) : Int32.ofInt a / Int32.ofInt b = Int32.ofInt (a / b) := by
  apply Int32.toInt_inj.mp
  have hq : fw_ok (a / b) := ⟨by have := Int.ediv_nonneg h0 (Int.le_of_lt h1); omega, by have := Int.ediv_le_self b h0; have := ha.2; omega⟩
  rw [Int32.toInt_div_of_ne_right, fw_toInt ha, fw_toInt hb, fw_toInt hq, Int.tdiv_eq_ediv_of_nonneg h0]
  intro h
  have h2 := congrArg Int32.toInt h
  rw [fw_toInt hb] at h2
  have h3 : (-1 : Int32).toInt = -1 := by decide
  omega
theorem fw_ne0 {b : Int} (hb : fw_ok b) (h1 : 0 < b) : ¬ Int32.ofInt b = 0 := by
  rw [fw_zero, fw_eq hb fw_ok0]
  omega
/-- fewer locals -/
theorem fw_drop {y : fw_M} {K0 pc K sl : Nat} {ls ls2 : List (Option fw_V)} {st : List fw_V} {R M : fw_F} {L : fw_G} {Q : fw_Q} (hs : ∀ (i : Nat) (v : fw_V), ls2[i]? = some (some v) → ls[i]? = some (some v)) (k : fw_WP y K0 pc ls2 st K sl R M L Q) : fw_WP y K0 pc ls st K sl R M L Q := by
  intro l D cA p e s m args below meth c bb H locs la hZ hO hY
  refine k l D cA p e s m args below meth c bb H locs la hZ hO ⟨fun v hv => ?_, hY.2.1, hY.2.2.1, hY.2.2.2.1, hY.2.2.2.2.1, fw_has_sub hY.2.2.2.2.2 fun q hq => ?_⟩
  · obtain ⟨i, hi⟩ := List.getElem?_of_mem hv
    exact hY.1 v (List.mem_of_getElem? (hs i v hi))
  · obtain ⟨i, x⟩ := q
    obtain ⟨j, v, h1, h2, h3⟩ := fw_lc_mem.mp hq
    exact fw_lc_mem.mpr ⟨j, v, h1, hs j v h2, h3⟩
theorem fw_take (n : Nat) {y : fw_M} {K0 pc K sl : Nat} {ls : List (Option fw_V)} {st : List fw_V} {R M : fw_F} {L : fw_G} {Q : fw_Q} (k : fw_WP y K0 pc (ls.take n) st K sl R M L Q) : fw_WP y K0 pc ls st K sl R M L Q := fw_drop (fun i v h => by
  rw [List.getElem?_take] at h
  split at h
  · exact h
  · cases h) k
/-- what is known of all numbers -/
theorem fw_okM {y : fw_M} {K0 pc K sl : Nat} {ls : List (Option fw_V)} {st : List fw_V} {R M : fw_F} {L : fw_G} {Q : fw_Q} (k : (∀ k j, fw_ok (M k j)) → fw_WP y K0 pc ls st K sl R M L Q) : fw_WP y K0 pc ls st K sl R M L Q := by
  intro l D cA p e s m args below meth c bb H locs la hZ hO hY
  exact k hY.2.1 l D cA p e s m args below meth c bb H locs la hZ hO hY
theorem fw_okS {y : fw_M} {K0 pc K sl : Nat} {ls : List (Option fw_V)} {st : List fw_V} {R M : fw_F} {L : fw_G} {Q : fw_Q} {a : Int} (k : fw_ok a → fw_WP y K0 pc ls (fw_i a :: st) K sl R M L Q) : fw_WP y K0 pc ls (fw_i a :: st) K sl R M L Q := by
  intro l D cA p e s m args below meth c bb H locs la hZ hO hY
  exact k (fw_oh hO) l D cA p e s m args below meth c bb H locs la hZ hO hY
theorem fw_iconst {y : fw_M} {K0 pc K sl : Nat} {ls : List (Option fw_V)} {st : List fw_V} {R M : fw_F} {L : fw_G} {Q : fw_Q} {n : Int} (hd : decode (fw_mC y) pc = .ok (.iconst n, 1)) (hn : fw_ok n) (k : fw_WP y K0 (pc + 1) ls (fw_i n :: st) K sl R M L Q) : fw_WP y K0 (pc) ls (st) K sl R M L Q := by
  intro l D cA p e s m args below meth c bb H locs la hZ hO hY
  exact lv_iconst hZ.1 hZ.2.1 hd rfl (k l D cA p e s m args below meth c bb H locs la hZ (fw_oc hn hO) hY)
theorem fw_bipush {y : fw_M} {K0 pc K sl : Nat} {ls : List (Option fw_V)} {st : List fw_V} {R M : fw_F} {L : fw_G} {Q : fw_Q} {n : Int} (hd : decode (fw_mC y) pc = .ok (.bipush n, 2)) (hn : fw_ok n) (hv : (Int8.ofInt n).toInt32 = Int32.ofInt n) (k : fw_WP y K0 (pc + 2) ls (fw_i n :: st) K sl R M L Q) : fw_WP y K0 (pc) ls (st) K sl R M L Q := by
  intro l D cA p e s m args below meth c bb H locs la hZ hO hY
  exact lv_bipush hZ.1 hZ.2.1 hd hv (k l D cA p e s m args below meth c bb H locs la hZ (fw_oc hn hO) hY)
theorem fw_sipush {y : fw_M} {K0 pc K sl : Nat} {ls : List (Option fw_V)} {st : List fw_V} {R M : fw_F} {L : fw_G} {Q : fw_Q} {n : Int} (hd : decode (fw_mC y) pc = .ok (.sipush n, 3)) (hn : fw_ok n) (hv : (Int16.ofInt n).toInt32 = Int32.ofInt n) (k : fw_WP y K0 (pc + 3) ls (fw_i n :: st) K sl R M L Q) : fw_WP y K0 (pc) ls (st) K sl R M L Q := by
  intro l D cA p e s m args below meth c bb H locs la hZ hO hY
  exact lv_sipush hZ.1 hZ.2.1 hd hv (k l D cA p e s m args below meth c bb H locs la hZ (fw_oc hn hO) hY)
theorem fw_ldc {y : fw_M} {K0 pc K sl : Nat} {ls : List (Option fw_V)} {st : List fw_V} {R M : fw_F} {L : fw_G} {Q : fw_Q} {idx : Nat} {v : Int} {v32 : Int32} (hd : decode (fw_mC y) pc = .ok (.ldc idx, 2)) (hw : Cond.constant (fw_cn (fw_mO y)) idx v32 ∈ fw_tbl) (hv : v32 = Int32.ofInt v) (hn : fw_ok v) (k : fw_WP y K0 (pc + 2) ls (fw_i v :: st) K sl R M L Q) : fw_WP y K0 (pc) ls (st) K sl R M L Q := by
  intro l D cA p e s m args below meth c bb H locs la hZ hO hY
  exact lv_ldc hZ.1 hZ.2.1 hZ.2.2.2.2.1 (by subst hv; exact hZ.2.2.2.2.2.1 _ hw) hd (k l D cA p e s m args below meth c bb H locs la hZ (fw_oc hn hO) hY)
theorem fw_lconst {y : fw_M} {K0 pc K sl : Nat} {ls : List (Option fw_V)} {st : List fw_V} {R M : fw_F} {L : fw_G} {Q : fw_Q} {n : Fin 2} {v : Int64} (hd : decode (fw_mC y) pc = .ok (.lconst n, 1)) (hv : Int64.ofNat (n : Nat) = v) (k : fw_WP y K0 (pc + 1) ls (fw_l v :: st) K sl R M L Q) : fw_WP y K0 (pc) ls (st) K sl R M L Q := by
  intro l D cA p e s m args below meth c bb H locs la hZ hO hY
  exact lv_lconst hZ.1 hZ.2.1 hd hv (k l D cA p e s m args below meth c bb H locs la hZ (fw_oc fw_okl hO) hY)
theorem fw_ldc2 {y : fw_M} {K0 pc K sl : Nat} {ls : List (Option fw_V)} {st : List fw_V} {R M : fw_F} {L : fw_G} {Q : fw_Q} {idx : Nat} {v : Int64} (hd : decode (fw_mC y) pc = .ok (.ldc2_w idx, 3)) (hw : Cond.constantLong (fw_cn (fw_mO y)) idx v ∈ fw_tbl) (k : fw_WP y K0 (pc + 3) ls (fw_l v :: st) K sl R M L Q) : fw_WP y K0 (pc) ls (st) K sl R M L Q := by
  intro l D cA p e s m args below meth c bb H locs la hZ hO hY
  exact lv_ldc2 hZ.1 hZ.2.1 hZ.2.2.2.2.1 (hZ.2.2.2.2.2.1 _ hw) hd (k l D cA p e s m args below meth c bb H locs la hZ (fw_oc fw_okl hO) hY)
theorem fw_iload_n {y : fw_M} {K0 pc K sl : Nat} {ls : List (Option fw_V)} {st : List fw_V} {R M : fw_F} {L : fw_G} {Q : fw_Q} {n : Fin 4} {i : Nat} {x : Int} (hd : decode (fw_mC y) pc = .ok (.iload_n n, 1)) (hi : (n : Nat) = i) (hl : ls[i]? = some (some (fw_i x))) (k : fw_WP y K0 (pc + 1) ls (fw_i x :: st) K sl R M L Q) : fw_WP y K0 (pc) ls (st) K sl R M L Q := by
  intro l D cA p e s m args below meth c bb H locs la hZ hO hY
  exact lv_iload_n hZ.1 hZ.2.1 hd hi (fw_ld hY.2.2.2.2.2 hl) (k l D cA p e s m args below meth c bb H locs la hZ (fw_oc (fw_ol hY.1 hl) hO) hY)
theorem fw_iload {y : fw_M} {K0 pc K sl : Nat} {ls : List (Option fw_V)} {st : List fw_V} {R M : fw_F} {L : fw_G} {Q : fw_Q} {i : Nat} {x : Int} (hd : decode (fw_mC y) pc = .ok (.iload i, 2)) (hl : ls[i]? = some (some (fw_i x))) (k : fw_WP y K0 (pc + 2) ls (fw_i x :: st) K sl R M L Q) : fw_WP y K0 (pc) ls (st) K sl R M L Q := by
  intro l D cA p e s m args below meth c bb H locs la hZ hO hY
  exact lv_iload hZ.1 hZ.2.1 hd (fw_ld hY.2.2.2.2.2 hl) (k l D cA p e s m args below meth c bb H locs la hZ (fw_oc (fw_ol hY.1 hl) hO) hY)
theorem fw_lload_n {y : fw_M} {K0 pc K sl : Nat} {ls : List (Option fw_V)} {st : List fw_V} {R M : fw_F} {L : fw_G} {Q : fw_Q} {n : Fin 4} {i : Nat} {x : Int64} (hd : decode (fw_mC y) pc = .ok (.lload_n n, 1)) (hi : (n : Nat) = i) (hl : ls[i]? = some (some (fw_l x))) (k : fw_WP y K0 (pc + 1) ls (fw_l x :: st) K sl R M L Q) : fw_WP y K0 (pc) ls (st) K sl R M L Q := by
  intro l D cA p e s m args below meth c bb H locs la hZ hO hY
  exact lv_lload_n hZ.1 hZ.2.1 hd hi (fw_ld hY.2.2.2.2.2 hl) (k l D cA p e s m args below meth c bb H locs la hZ (fw_oc (fw_ol hY.1 hl) hO) hY)
theorem fw_lload {y : fw_M} {K0 pc K sl : Nat} {ls : List (Option fw_V)} {st : List fw_V} {R M : fw_F} {L : fw_G} {Q : fw_Q} {i : Nat} {x : Int64} (hd : decode (fw_mC y) pc = .ok (.lload i, 2)) (hl : ls[i]? = some (some (fw_l x))) (k : fw_WP y K0 (pc + 2) ls (fw_l x :: st) K sl R M L Q) : fw_WP y K0 (pc) ls (st) K sl R M L Q := by
  intro l D cA p e s m args below meth c bb H locs la hZ hO hY
  exact lv_lload hZ.1 hZ.2.1 hd (fw_ld hY.2.2.2.2.2 hl) (k l D cA p e s m args below meth c bb H locs la hZ (fw_oc (fw_ol hY.1 hl) hO) hY)
theorem fw_aload_n {y : fw_M} {K0 pc K sl : Nat} {ls : List (Option fw_V)} {st : List fw_V} {R M : fw_F} {L : fw_G} {Q : fw_Q} {n : Fin 4} {i : Nat} {x : Int} (hd : decode (fw_mC y) pc = .ok (.aload_n n, 1)) (hi : (n : Nat) = i) (hl : ls[i]? = some (some (fw_r x))) (k : fw_WP y K0 (pc + 1) ls (fw_r x :: st) K sl R M L Q) : fw_WP y K0 (pc) ls (st) K sl R M L Q := by
  intro l D cA p e s m args below meth c bb H locs la hZ hO hY
  exact lv_aload_n hZ.1 hZ.2.1 hd hi (fw_ld hY.2.2.2.2.2 hl) (k l D cA p e s m args below meth c bb H locs la hZ (fw_oc (fw_ol hY.1 hl) hO) hY)
theorem fw_aload {y : fw_M} {K0 pc K sl : Nat} {ls : List (Option fw_V)} {st : List fw_V} {R M : fw_F} {L : fw_G} {Q : fw_Q} {i : Nat} {x : Int} (hd : decode (fw_mC y) pc = .ok (.aload i, 2)) (hl : ls[i]? = some (some (fw_r x))) (k : fw_WP y K0 (pc + 2) ls (fw_r x :: st) K sl R M L Q) : fw_WP y K0 (pc) ls (st) K sl R M L Q := by
  intro l D cA p e s m args below meth c bb H locs la hZ hO hY
  exact lv_aload hZ.1 hZ.2.1 hd (fw_ld hY.2.2.2.2.2 hl) (k l D cA p e s m args below meth c bb H locs la hZ (fw_oc (fw_ol hY.1 hl) hO) hY)
theorem fw_h1 {b nL i : Nat} {ls : List (Option fw_V)} {la : Array Slot} {v : fw_V} (h : lv_has la nL ((i, fw_cv b v) :: (fw_lc b 0 ls).filter (fun q => !(q.1 == i) && !(q.1 + 1 == i && q.2.category == 2)))) : lv_has la nL (fw_lc b 0 (fw_st1 ls i v)) := by
  refine fw_has_sub h fun q hq => ?_
  obtain ⟨j, x⟩ := q
  obtain ⟨j', u, h1, h2, h3⟩ := fw_lc_mem.mp hq
  have hj : j = j' := by omega
  subst hj
  rcases fw_st1_at ls i v j u h2 with ⟨rfl, rfl⟩ | ⟨a1, a2, a3⟩
  · rw [h3]; exact List.mem_cons_self
  · refine List.mem_cons_of_mem _ (List.mem_filter.mpr ⟨fw_lc_mem.mpr ⟨j, u, by omega, a2, h3⟩, ?_⟩)
    subst h3
    simp only [fw_cv_cat]
    simp only [Bool.and_eq_true, Bool.not_eq_true', beq_eq_false_iff_ne, ne_eq, Bool.and_eq_false_iff]
    refine ⟨a1, ?_⟩
    by_cases hji : j + 1 = i
    · exact Or.inr fun q => a3 ⟨hji, q⟩
    · exact Or.inl hji
theorem fw_h2 {b nL i : Nat} {ls : List (Option fw_V)} {la : Array Slot} {v : fw_V} (h : lv_has la nL ((i, fw_cv b v) :: (fw_lc b 0 ls).filter (fun q => !(q.1 == i) && (!(q.1 == i + 1) && !(q.1 + 1 == i && q.2.category == 2))))) : lv_has la nL (fw_lc b 0 (fw_st2 ls i v)) := by
  refine fw_has_sub h fun q hq => ?_
  obtain ⟨j, x⟩ := q
  obtain ⟨j', u, h1, h2, h3⟩ := fw_lc_mem.mp hq
  have hj : j = j' := by omega
  subst hj
  obtain ⟨g1, g2⟩ := fw_no_at _ _ _ _ h2
  rcases fw_st1_at ls i v j u g2 with ⟨rfl, rfl⟩ | ⟨a1, a2, a3⟩
  · rw [h3]; exact List.mem_cons_self
  · refine List.mem_cons_of_mem _ (List.mem_filter.mpr ⟨fw_lc_mem.mpr ⟨j, u, by omega, a2, h3⟩, ?_⟩)
    subst h3
    simp only [fw_cv_cat]
    simp only [Bool.and_eq_true, Bool.not_eq_true', beq_eq_false_iff_ne, ne_eq, Bool.and_eq_false_iff]
    refine ⟨a1, g1, ?_⟩
    by_cases hji : j + 1 = i
    · exact Or.inr fun q => a3 ⟨hji, q⟩
    · exact Or.inl hji
theorem fw_ok1 {ls : List (Option fw_V)} {i : Nat} {v : fw_V} (h : ∀ v, some v ∈ ls → fw_okV v) (hv : fw_okV v) : ∀ u, some u ∈ fw_st1 ls i v → fw_okV u := by
  intro u hu
  obtain ⟨j, hj⟩ := List.getElem?_of_mem hu
  rcases fw_st1_at ls i v j u hj with ⟨_, rfl⟩ | ⟨_, a2, _⟩
  · exact hv
  · exact h u (List.mem_of_getElem? a2)
theorem fw_ok2 {ls : List (Option fw_V)} {i : Nat} {v : fw_V} (h : ∀ v, some v ∈ ls → fw_okV v) (hv : fw_okV v) : ∀ u, some u ∈ fw_st2 ls i v → fw_okV u := by
  intro u hu
  obtain ⟨j, hj⟩ := List.getElem?_of_mem hu
  exact fw_ok1 h hv u (List.mem_of_getElem? (fw_no_at _ _ _ _ hj).2)
theorem fw_istore_n {y : fw_M} {K0 pc K sl : Nat} {ls : List (Option fw_V)} {st : List fw_V} {R M : fw_F} {L : fw_G} {Q : fw_Q} {n : Fin 4} {i : Nat} {x : Int} {ls2 : List (Option fw_V)} (hd : decode (fw_mC y) pc = .ok (.istore_n n, 1)) (hi : (n : Nat) = i) (hn : i < fw_mL y) (hl : fw_st1 ls i (fw_i x) = ls2) (k : fw_WP y K0 (pc + 1) ls2 st K sl R M L Q) : fw_WP y K0 pc ls (fw_i x :: st) K sl R M L Q := by
  subst hl
  intro l D cA p e s m args below meth c bb H locs la hZ hO hY
  refine lv_istore_n hZ.1 hZ.2.1 hd hi hY.2.2.2.2.2 hn rfl fun la2 hla => ?_
  exact k l D cA p e s m args below meth c bb H locs la2 hZ (fw_ot hO) ⟨fw_ok1 hY.1 (fw_oh hO), hY.2.1, hY.2.2.1, hY.2.2.2.1, hY.2.2.2.2.1, fw_h1 hla⟩
theorem fw_istore {y : fw_M} {K0 pc K sl : Nat} {ls : List (Option fw_V)} {st : List fw_V} {R M : fw_F} {L : fw_G} {Q : fw_Q} {i : Nat} {x : Int} {ls2 : List (Option fw_V)} (hd : decode (fw_mC y) pc = .ok (.istore i, 2)) (hn : i < fw_mL y) (hl : fw_st1 ls i (fw_i x) = ls2) (k : fw_WP y K0 (pc + 2) ls2 st K sl R M L Q) : fw_WP y K0 pc ls (fw_i x :: st) K sl R M L Q := by
  subst hl
  intro l D cA p e s m args below meth c bb H locs la hZ hO hY
  refine lv_istore hZ.1 hZ.2.1 hd hY.2.2.2.2.2 hn rfl fun la2 hla => ?_
  exact k l D cA p e s m args below meth c bb H locs la2 hZ (fw_ot hO) ⟨fw_ok1 hY.1 (fw_oh hO), hY.2.1, hY.2.2.1, hY.2.2.2.1, hY.2.2.2.2.1, fw_h1 hla⟩
theorem fw_lstore_n {y : fw_M} {K0 pc K sl : Nat} {ls : List (Option fw_V)} {st : List fw_V} {R M : fw_F} {L : fw_G} {Q : fw_Q} {n : Fin 4} {i : Nat} {x : Int64} {ls2 : List (Option fw_V)} (hd : decode (fw_mC y) pc = .ok (.lstore_n n, 1)) (hi : (n : Nat) = i) (hn : i + 1 < fw_mL y) (hl : fw_st2 ls i (fw_l x) = ls2) (k : fw_WP y K0 (pc + 1) ls2 st K sl R M L Q) : fw_WP y K0 pc ls (fw_l x :: st) K sl R M L Q := by
  subst hl
  intro l D cA p e s m args below meth c bb H locs la hZ hO hY
  refine lv_lstore_n hZ.1 hZ.2.1 hd hi hY.2.2.2.2.2 hn rfl fun la2 hla => ?_
  exact k l D cA p e s m args below meth c bb H locs la2 hZ (fw_ot hO) ⟨fw_ok2 hY.1 (fw_oh hO), hY.2.1, hY.2.2.1, hY.2.2.2.1, hY.2.2.2.2.1, fw_h2 hla⟩
theorem fw_lstore {y : fw_M} {K0 pc K sl : Nat} {ls : List (Option fw_V)} {st : List fw_V} {R M : fw_F} {L : fw_G} {Q : fw_Q} {i : Nat} {x : Int64} {ls2 : List (Option fw_V)} (hd : decode (fw_mC y) pc = .ok (.lstore i, 2)) (hn : i + 1 < fw_mL y) (hl : fw_st2 ls i (fw_l x) = ls2) (k : fw_WP y K0 (pc + 2) ls2 st K sl R M L Q) : fw_WP y K0 pc ls (fw_l x :: st) K sl R M L Q := by
  subst hl
  intro l D cA p e s m args below meth c bb H locs la hZ hO hY
  refine lv_lstore hZ.1 hZ.2.1 hd hY.2.2.2.2.2 hn rfl fun la2 hla => ?_
  exact k l D cA p e s m args below meth c bb H locs la2 hZ (fw_ot hO) ⟨fw_ok2 hY.1 (fw_oh hO), hY.2.1, hY.2.2.1, hY.2.2.2.1, hY.2.2.2.2.1, fw_h2 hla⟩
theorem fw_astore_n {y : fw_M} {K0 pc K sl : Nat} {ls : List (Option fw_V)} {st : List fw_V} {R M : fw_F} {L : fw_G} {Q : fw_Q} {n : Fin 4} {i : Nat} {x : Int} {ls2 : List (Option fw_V)} (hd : decode (fw_mC y) pc = .ok (.astore_n n, 1)) (hi : (n : Nat) = i) (hn : i < fw_mL y) (hl : fw_st1 ls i (fw_r x) = ls2) (k : fw_WP y K0 (pc + 1) ls2 st K sl R M L Q) : fw_WP y K0 pc ls (fw_r x :: st) K sl R M L Q := by
  subst hl
  intro l D cA p e s m args below meth c bb H locs la hZ hO hY
  refine lv_astore_n hZ.1 hZ.2.1 hd hi hY.2.2.2.2.2 hn rfl fun la2 hla => ?_
  exact k l D cA p e s m args below meth c bb H locs la2 hZ (fw_ot hO) ⟨fw_ok1 hY.1 (fw_oh hO), hY.2.1, hY.2.2.1, hY.2.2.2.1, hY.2.2.2.2.1, fw_h1 hla⟩
theorem fw_astore {y : fw_M} {K0 pc K sl : Nat} {ls : List (Option fw_V)} {st : List fw_V} {R M : fw_F} {L : fw_G} {Q : fw_Q} {i : Nat} {x : Int} {ls2 : List (Option fw_V)} (hd : decode (fw_mC y) pc = .ok (.astore i, 2)) (hn : i < fw_mL y) (hl : fw_st1 ls i (fw_r x) = ls2) (k : fw_WP y K0 (pc + 2) ls2 st K sl R M L Q) : fw_WP y K0 pc ls (fw_r x :: st) K sl R M L Q := by
  subst hl
  intro l D cA p e s m args below meth c bb H locs la hZ hO hY
  refine lv_astore hZ.1 hZ.2.1 hd hY.2.2.2.2.2 hn rfl fun la2 hla => ?_
  exact k l D cA p e s m args below meth c bb H locs la2 hZ (fw_ot hO) ⟨fw_ok1 hY.1 (fw_oh hO), hY.2.1, hY.2.2.1, hY.2.2.2.1, hY.2.2.2.2.1, fw_h1 hla⟩
theorem fw_iinc {y : fw_M} {K0 pc K sl : Nat} {ls : List (Option fw_V)} {st : List fw_V} {R M : fw_F} {L : fw_G} {Q : fw_Q} {i : Nat} {n x : Int} {ls2 : List (Option fw_V)} (hd : decode (fw_mC y) pc = .ok (.iinc i n, 3)) (hx : ls[i]? = some (some (fw_i x))) (hr : fw_ok (x + n)) (hn : i < fw_mL y) (hl : fw_st1 ls i (fw_i (x + n)) = ls2) (k : fw_WP y K0 (pc + 3) ls2 st K sl R M L Q) : fw_WP y K0 pc ls st K sl R M L Q := by
  subst hl
  intro l D cA p e s m args below meth c bb H locs la hZ hO hY
  have hm : (i, Value.int (Int32.ofInt x)) ∈ fw_lc bb 0 ls := fw_lc_mem.mpr ⟨i, fw_i x, by omega, hx, rfl⟩
  obtain ⟨kq, hkq⟩ := List.getElem?_of_mem hm
  refine lv_iinc (k := kq) hZ.1 hZ.2.1 hd hY.2.2.2.2.2 hkq (Int32.ofInt_add x n).symm hn rfl fun la2 hla => ?_
  exact k l D cA p e s m args below meth c bb H locs la2 hZ hO ⟨fw_ok1 hY.1 hr, hY.2.1, hY.2.2.1, hY.2.2.2.1, hY.2.2.2.2.1, fw_h1 (v := fw_i (x + n)) hla⟩
theorem fw_iadd {y : fw_M} {K0 pc K sl : Nat} {ls : List (Option fw_V)} {st : List fw_V} {R M : fw_F} {L : fw_G} {Q : fw_Q} {a b : Int} (hd : decode (fw_mC y) pc = .ok (.iadd, 1)) (hr : fw_ok (a + b)) (k : fw_WP y K0 (pc + 1) ls (fw_i (a + b) :: st) K sl R M L Q) : fw_WP y K0 (pc) ls (fw_i b :: fw_i a :: st) K sl R M L Q := by
  intro l D cA p e s m args below meth c bb H locs la hZ hO hY
  have hk := k l D cA p e s m args below meth c bb H locs la hZ (fw_oc hr (fw_ot (fw_ot hO))) hY
  exact lv_iadd hZ.1 hZ.2.1 hd (by rw [← Int32.ofInt_add]; exact hk)
theorem fw_isub {y : fw_M} {K0 pc K sl : Nat} {ls : List (Option fw_V)} {st : List fw_V} {R M : fw_F} {L : fw_G} {Q : fw_Q} {a b : Int} (hd : decode (fw_mC y) pc = .ok (.isub, 1)) (hr : fw_ok (a - b)) (k : fw_WP y K0 (pc + 1) ls (fw_i (a - b) :: st) K sl R M L Q) : fw_WP y K0 (pc) ls (fw_i b :: fw_i a :: st) K sl R M L Q := by
  intro l D cA p e s m args below meth c bb H locs la hZ hO hY
  have hk := k l D cA p e s m args below meth c bb H locs la hZ (fw_oc hr (fw_ot (fw_ot hO))) hY
  exact lv_isub hZ.1 hZ.2.1 hd (by rw [← Int32.ofInt_sub]; exact hk)
theorem fw_imul {y : fw_M} {K0 pc K sl : Nat} {ls : List (Option fw_V)} {st : List fw_V} {R M : fw_F} {L : fw_G} {Q : fw_Q} {a b : Int} (hd : decode (fw_mC y) pc = .ok (.imul, 1)) (hr : fw_ok (a * b)) (k : fw_WP y K0 (pc + 1) ls (fw_i (a * b) :: st) K sl R M L Q) : fw_WP y K0 (pc) ls (fw_i b :: fw_i a :: st) K sl R M L Q := by
  intro l D cA p e s m args below meth c bb H locs la hZ hO hY
  have hk := k l D cA p e s m args below meth c bb H locs la hZ (fw_oc hr (fw_ot (fw_ot hO))) hY
  exact lv_imul hZ.1 hZ.2.1 hd (by rw [← Int32.ofInt_mul]; exact hk)
theorem fw_ineg {y : fw_M} {K0 pc K sl : Nat} {ls : List (Option fw_V)} {st : List fw_V} {R M : fw_F} {L : fw_G} {Q : fw_Q} {a : Int} (hd : decode (fw_mC y) pc = .ok (.ineg, 1)) (hr : fw_ok (-a)) (k : fw_WP y K0 (pc + 1) ls (fw_i (-a) :: st) K sl R M L Q) : fw_WP y K0 (pc) ls (fw_i a :: st) K sl R M L Q := by
  intro l D cA p e s m args below meth c bb H locs la hZ hO hY
  have hk := k l D cA p e s m args below meth c bb H locs la hZ (fw_oc hr (fw_ot hO)) hY
  exact lv_ineg hZ.1 hZ.2.1 hd (by rw [← Int32.ofInt_neg]; exact hk)
theorem fw_idiv {y : fw_M} {K0 pc K sl : Nat} {ls : List (Option fw_V)} {st : List fw_V} {R M : fw_F} {L : fw_G} {Q : fw_Q} {a b : Int} (hd : decode (fw_mC y) pc = .ok (.idiv, 1)) (h0 : 0 ≤ a) (h1 : 0 < b) (k : fw_WP y K0 (pc + 1) ls (fw_i (a / b) :: st) K sl R M L Q) : fw_WP y K0 (pc) ls (fw_i b :: fw_i a :: st) K sl R M L Q := by
  intro l D cA p e s m args below meth c bb H locs la hZ hO hY
  have hb : fw_ok b := fw_oh hO
  have ha : fw_ok a := fw_oh (fw_ot hO)
  have hq : fw_ok (a / b) := ⟨by have := Int.ediv_nonneg h0 (Int.le_of_lt h1); omega, by have := Int.ediv_le_self b h0; have := ha.2; omega⟩
  have hk := k l D cA p e s m args below meth c bb H locs la hZ (fw_oc hq (fw_ot (fw_ot hO))) hY
  exact lv_idiv hZ.1 hZ.2.1 hd (fw_ne0 hb h1) (by rw [fw_div32 ha hb h0 h1]; exact hk)
theorem fw_irem {y : fw_M} {K0 pc K sl : Nat} {ls : List (Option fw_V)} {st : List fw_V} {R M : fw_F} {L : fw_G} {Q : fw_Q} {a b : Int} (hd : decode (fw_mC y) pc = .ok (.irem, 1)) (h0 : 0 ≤ a) (h1 : 0 < b) (k : fw_WP y K0 (pc + 1) ls (fw_i (a % b) :: st) K sl R M L Q) : fw_WP y K0 (pc) ls (fw_i b :: fw_i a :: st) K sl R M L Q := by
  intro l D cA p e s m args below meth c bb H locs la hZ hO hY
  have hb : fw_ok b := fw_oh hO
  have ha : fw_ok a := fw_oh (fw_ot hO)
  have hq : fw_ok (a % b) := ⟨by have := Int.emod_nonneg a (Int.ne_of_gt h1); omega, by have := Int.emod_lt_of_pos a h1; have := hb.2; omega⟩
  have hk := k l D cA p e s m args below meth c bb H locs la hZ (fw_oc hq (fw_ot (fw_ot hO))) hY
  exact lv_irem hZ.1 hZ.2.1 hd (fw_ne0 hb h1) (by rw [fw_div32 ha hb h0 h1, ← Int32.ofInt_mul, ← Int32.ofInt_sub, show a - a / b * b = a % b by have := Int.emod_add_mul_ediv a b; rw [Int.mul_comm (a / b) b]; omega]; exact hk)
theorem fw_iand {y : fw_M} {K0 pc K sl : Nat} {ls : List (Option fw_V)} {st : List fw_V} {R M : fw_F} {L : fw_G} {Q : fw_Q} {a b : Int} (hd : decode (fw_mC y) pc = .ok (.iand, 1)) (k : fw_WP y K0 (pc + 1) ls (fw_i (fw_and a b) :: st) K sl R M L Q) : fw_WP y K0 (pc) ls (fw_i b :: fw_i a :: st) K sl R M L Q := by
  intro l D cA p e s m args below meth c bb H locs la hZ hO hY
  have hk := k l D cA p e s m args below meth c bb H locs la hZ (fw_oc (fw_ok32 _) (fw_ot (fw_ot hO))) hY
  exact lv_iand hZ.1 hZ.2.1 hd (by rw [show Int32.ofInt a &&& Int32.ofInt b = Int32.ofInt (fw_and a b) by rw [fw_and, Int32.ofInt_toInt]]; exact hk)
theorem fw_ior {y : fw_M} {K0 pc K sl : Nat} {ls : List (Option fw_V)} {st : List fw_V} {R M : fw_F} {L : fw_G} {Q : fw_Q} {a b : Int} (hd : decode (fw_mC y) pc = .ok (.ior, 1)) (k : fw_WP y K0 (pc + 1) ls (fw_i (fw_or a b) :: st) K sl R M L Q) : fw_WP y K0 (pc) ls (fw_i b :: fw_i a :: st) K sl R M L Q := by
  intro l D cA p e s m args below meth c bb H locs la hZ hO hY
  have hk := k l D cA p e s m args below meth c bb H locs la hZ (fw_oc (fw_ok32 _) (fw_ot (fw_ot hO))) hY
  exact lv_ior hZ.1 hZ.2.1 hd (by rw [show Int32.ofInt a ||| Int32.ofInt b = Int32.ofInt (fw_or a b) by rw [fw_or, Int32.ofInt_toInt]]; exact hk)
theorem fw_ishl {y : fw_M} {K0 pc K sl : Nat} {ls : List (Option fw_V)} {st : List fw_V} {R M : fw_F} {L : fw_G} {Q : fw_Q} {a b : Int} (hd : decode (fw_mC y) pc = .ok (.ishl, 1)) (k : fw_WP y K0 (pc + 1) ls (fw_i (fw_shl a b) :: st) K sl R M L Q) : fw_WP y K0 (pc) ls (fw_i b :: fw_i a :: st) K sl R M L Q := by
  intro l D cA p e s m args below meth c bb H locs la hZ hO hY
  have hk := k l D cA p e s m args below meth c bb H locs la hZ (fw_oc (fw_ok32 _) (fw_ot (fw_ot hO))) hY
  exact lv_ishl hZ.1 hZ.2.1 hd (by rw [show Int32.ofInt a <<< (Int32.ofInt b &&& 31) = Int32.ofInt (fw_shl a b) by rw [fw_shl, Int32.ofInt_toInt]]; exact hk)
theorem fw_ladd {y : fw_M} {K0 pc K sl : Nat} {ls : List (Option fw_V)} {st : List fw_V} {R M : fw_F} {L : fw_G} {Q : fw_Q} {x z : Int64} (hd : decode (fw_mC y) pc = .ok (.ladd, 1)) (k : fw_WP y K0 (pc + 1) ls (fw_l (x + z) :: st) K sl R M L Q) : fw_WP y K0 (pc) ls (fw_l z :: fw_l x :: st) K sl R M L Q := by
  intro l D cA p e s m args below meth c bb H locs la hZ hO hY
  exact lv_ladd hZ.1 hZ.2.1 hd (k l D cA p e s m args below meth c bb H locs la hZ (fw_oc fw_okl (fw_ot (fw_ot hO))) hY)
theorem fw_lsub {y : fw_M} {K0 pc K sl : Nat} {ls : List (Option fw_V)} {st : List fw_V} {R M : fw_F} {L : fw_G} {Q : fw_Q} {x z : Int64} (hd : decode (fw_mC y) pc = .ok (.lsub, 1)) (k : fw_WP y K0 (pc + 1) ls (fw_l (x - z) :: st) K sl R M L Q) : fw_WP y K0 (pc) ls (fw_l z :: fw_l x :: st) K sl R M L Q := by
  intro l D cA p e s m args below meth c bb H locs la hZ hO hY
  exact lv_lsub hZ.1 hZ.2.1 hd (k l D cA p e s m args below meth c bb H locs la hZ (fw_oc fw_okl (fw_ot (fw_ot hO))) hY)
theorem fw_lmul {y : fw_M} {K0 pc K sl : Nat} {ls : List (Option fw_V)} {st : List fw_V} {R M : fw_F} {L : fw_G} {Q : fw_Q} {x z : Int64} (hd : decode (fw_mC y) pc = .ok (.lmul, 1)) (k : fw_WP y K0 (pc + 1) ls (fw_l (x * z) :: st) K sl R M L Q) : fw_WP y K0 (pc) ls (fw_l z :: fw_l x :: st) K sl R M L Q := by
  intro l D cA p e s m args below meth c bb H locs la hZ hO hY
  exact lv_lmul hZ.1 hZ.2.1 hd (k l D cA p e s m args below meth c bb H locs la hZ (fw_oc fw_okl (fw_ot (fw_ot hO))) hY)
theorem fw_land {y : fw_M} {K0 pc K sl : Nat} {ls : List (Option fw_V)} {st : List fw_V} {R M : fw_F} {L : fw_G} {Q : fw_Q} {x z : Int64} (hd : decode (fw_mC y) pc = .ok (.land, 1)) (k : fw_WP y K0 (pc + 1) ls (fw_l (x &&& z) :: st) K sl R M L Q) : fw_WP y K0 (pc) ls (fw_l z :: fw_l x :: st) K sl R M L Q := by
  intro l D cA p e s m args below meth c bb H locs la hZ hO hY
  exact lv_land hZ.1 hZ.2.1 hd (k l D cA p e s m args below meth c bb H locs la hZ (fw_oc fw_okl (fw_ot (fw_ot hO))) hY)
theorem fw_lor {y : fw_M} {K0 pc K sl : Nat} {ls : List (Option fw_V)} {st : List fw_V} {R M : fw_F} {L : fw_G} {Q : fw_Q} {x z : Int64} (hd : decode (fw_mC y) pc = .ok (.lor, 1)) (k : fw_WP y K0 (pc + 1) ls (fw_l (x ||| z) :: st) K sl R M L Q) : fw_WP y K0 (pc) ls (fw_l z :: fw_l x :: st) K sl R M L Q := by
  intro l D cA p e s m args below meth c bb H locs la hZ hO hY
  exact lv_lor hZ.1 hZ.2.1 hd (k l D cA p e s m args below meth c bb H locs la hZ (fw_oc fw_okl (fw_ot (fw_ot hO))) hY)
theorem fw_ldiv {y : fw_M} {K0 pc K sl : Nat} {ls : List (Option fw_V)} {st : List fw_V} {R M : fw_F} {L : fw_G} {Q : fw_Q} {x z : Int64} (hd : decode (fw_mC y) pc = .ok (.ldiv, 1)) (hz : ¬ z = 0) (k : fw_WP y K0 (pc + 1) ls (fw_l (x / z) :: st) K sl R M L Q) : fw_WP y K0 (pc) ls (fw_l z :: fw_l x :: st) K sl R M L Q := by
  intro l D cA p e s m args below meth c bb H locs la hZ hO hY
  exact lv_ldiv hZ.1 hZ.2.1 hd hz (k l D cA p e s m args below meth c bb H locs la hZ (fw_oc fw_okl (fw_ot (fw_ot hO))) hY)
theorem fw_lrem {y : fw_M} {K0 pc K sl : Nat} {ls : List (Option fw_V)} {st : List fw_V} {R M : fw_F} {L : fw_G} {Q : fw_Q} {x z : Int64} (hd : decode (fw_mC y) pc = .ok (.lrem, 1)) (hz : ¬ z = 0) (k : fw_WP y K0 (pc + 1) ls (fw_l (x - x / z * z) :: st) K sl R M L Q) : fw_WP y K0 (pc) ls (fw_l z :: fw_l x :: st) K sl R M L Q := by
  intro l D cA p e s m args below meth c bb H locs la hZ hO hY
  exact lv_lrem hZ.1 hZ.2.1 hd hz (k l D cA p e s m args below meth c bb H locs la hZ (fw_oc fw_okl (fw_ot (fw_ot hO))) hY)
theorem fw_i2l64 {a : Int} (h : fw_ok a) : (Int32.ofInt a).toInt64 = Int64.ofInt a := by rw [← Int64.ofInt_int32ToInt, fw_toInt h]
theorem fw_lshl {y : fw_M} {K0 pc K sl : Nat} {ls : List (Option fw_V)} {st : List fw_V} {R M : fw_F} {L : fw_G} {Q : fw_Q} {x : Int64} {a : Int} (hd : decode (fw_mC y) pc = .ok (.lshl, 1)) (k : fw_WP y K0 (pc + 1) ls (fw_l (x <<< (Int64.ofInt a &&& 63)) :: st) K sl R M L Q) : fw_WP y K0 (pc) ls (fw_i a :: fw_l x :: st) K sl R M L Q := by
  intro l D cA p e s m args below meth c bb H locs la hZ hO hY
  have ha : fw_ok a := fw_oh hO
  have hk := k l D cA p e s m args below meth c bb H locs la hZ (fw_oc fw_okl (fw_ot (fw_ot hO))) hY
  exact lv_lshl hZ.1 hZ.2.1 hd (by rw [fw_i2l64 ha]) hk
theorem fw_lshr {y : fw_M} {K0 pc K sl : Nat} {ls : List (Option fw_V)} {st : List fw_V} {R M : fw_F} {L : fw_G} {Q : fw_Q} {x : Int64} {a : Int} (hd : decode (fw_mC y) pc = .ok (.lshr, 1)) (k : fw_WP y K0 (pc + 1) ls (fw_l (x >>> (Int64.ofInt a &&& 63)) :: st) K sl R M L Q) : fw_WP y K0 (pc) ls (fw_i a :: fw_l x :: st) K sl R M L Q := by
  intro l D cA p e s m args below meth c bb H locs la hZ hO hY
  have ha : fw_ok a := fw_oh hO
  have hk := k l D cA p e s m args below meth c bb H locs la hZ (fw_oc fw_okl (fw_ot (fw_ot hO))) hY
  exact lv_lshr hZ.1 hZ.2.1 hd (by rw [fw_i2l64 ha]) hk
theorem fw_lushr {y : fw_M} {K0 pc K sl : Nat} {ls : List (Option fw_V)} {st : List fw_V} {R M : fw_F} {L : fw_G} {Q : fw_Q} {x : Int64} {a : Int} (hd : decode (fw_mC y) pc = .ok (.lushr, 1)) (k : fw_WP y K0 (pc + 1) ls (fw_l ((x.toUInt64 >>> ((Int64.ofInt a).toUInt64 &&& Int64.toUInt64 63)).toInt64) :: st) K sl R M L Q) : fw_WP y K0 (pc) ls (fw_i a :: fw_l x :: st) K sl R M L Q := by
  intro l D cA p e s m args below meth c bb H locs la hZ hO hY
  have ha : fw_ok a := fw_oh hO
  have hk := k l D cA p e s m args below meth c bb H locs la hZ (fw_oc fw_okl (fw_ot (fw_ot hO))) hY
  exact lv_lushr hZ.1 hZ.2.1 hd (by rw [fw_i2l64 ha]) hk
theorem fw_i2l {y : fw_M} {K0 pc K sl : Nat} {ls : List (Option fw_V)} {st : List fw_V} {R M : fw_F} {L : fw_G} {Q : fw_Q} {a : Int} (hd : decode (fw_mC y) pc = .ok (.i2l, 1)) (k : fw_WP y K0 (pc + 1) ls (fw_l (Int64.ofInt a) :: st) K sl R M L Q) : fw_WP y K0 (pc) ls (fw_i a :: st) K sl R M L Q := by
  intro l D cA p e s m args below meth c bb H locs la hZ hO hY
  have ha : fw_ok a := fw_oh hO
  have hk := k l D cA p e s m args below meth c bb H locs la hZ (fw_oc fw_okl (fw_ot hO)) hY
  exact lv_i2l hZ.1 hZ.2.1 hd (fw_i2l64 ha) hk
theorem fw_l2i {y : fw_M} {K0 pc K sl : Nat} {ls : List (Option fw_V)} {st : List fw_V} {R M : fw_F} {L : fw_G} {Q : fw_Q} {x : Int64} (hd : decode (fw_mC y) pc = .ok (.l2i, 1)) (k : fw_WP y K0 (pc + 1) ls (fw_i x.toInt32.toInt :: st) K sl R M L Q) : fw_WP y K0 (pc) ls (fw_l x :: st) K sl R M L Q := by
  intro l D cA p e s m args below meth c bb H locs la hZ hO hY
  have hk := k l D cA p e s m args below meth c bb H locs la hZ (fw_oc (fw_ok32 _) (fw_ot hO)) hY
  exact lv_l2i hZ.1 hZ.2.1 hd (Int32.ofInt_toInt x.toInt32).symm hk
def fw_cmp (x z : Int64) : Int := if x = z then 0 else if z < x then 1 else -1
theorem fw_cmp_eq (x z : Int64) : lg_cmp x z = Int32.ofInt (fw_cmp x z) := by
  unfold lg_cmp fw_cmp
  by_cases h1 : x = z
  · subst h1
    have : ¬ x > x := by rw [gt_iff_lt, Int64.lt_iff_toInt_lt]; omega
    rw [if_neg this, if_pos rfl, if_pos rfl]; rfl
  · rw [if_neg h1, if_neg h1]
    by_cases h2 : z < x
    · rw [if_pos h2, if_pos h2]; rfl
    · rw [if_neg h2, if_neg h2]; rfl
theorem fw_cmp_ok (x z : Int64) : fw_ok (fw_cmp x z) := by
  unfold fw_cmp
  split
  · exact ⟨by decide, by decide⟩
  · split <;> exact ⟨by decide, by decide⟩
theorem fw_cmp_0 {x z : Int64} : fw_cmp x z = 0 ↔ x = z := by
  unfold fw_cmp
  split
  · simp_all
  · split <;> simp_all
theorem fw_lcmp {y : fw_M} {K0 pc K sl : Nat} {ls : List (Option fw_V)} {st : List fw_V} {R M : fw_F} {L : fw_G} {Q : fw_Q} {x z : Int64} (hd : decode (fw_mC y) pc = .ok (.lcmp, 1)) (k : fw_WP y K0 (pc + 1) ls (fw_i (fw_cmp x z) :: st) K sl R M L Q) : fw_WP y K0 (pc) ls (fw_l z :: fw_l x :: st) K sl R M L Q := by
  intro l D cA p e s m args below meth c bb H locs la hZ hO hY
  have hk := k l D cA p e s m args below meth c bb H locs la hZ (fw_oc (fw_cmp_ok x z) (fw_ot (fw_ot hO))) hY
  exact W.lcmp hZ.1 hZ.2.1 hd (by rw [fw_cmp_eq]; exact hk)
theorem fw_dup {y : fw_M} {K0 pc K sl : Nat} {ls : List (Option fw_V)} {st : List fw_V} {R M : fw_F} {L : fw_G} {Q : fw_Q} {v : fw_V} (hd : decode (fw_mC y) pc = .ok (.dup, 1)) (hc : fw_cat v = 1) (k : fw_WP y K0 (pc + 1) ls (v :: v :: st) K sl R M L Q) : fw_WP y K0 (pc) ls (v :: st) K sl R M L Q := by
  intro l D cA p e s m args below meth c bb H locs la hZ hO hY
  exact lv_dup hZ.1 hZ.2.1 hd ((fw_cv_cat bb v).trans hc) (k l D cA p e s m args below meth c bb H locs la hZ (fw_oc (fw_oh hO) hO) hY)
theorem fw_pop {y : fw_M} {K0 pc K sl : Nat} {ls : List (Option fw_V)} {st : List fw_V} {R M : fw_F} {L : fw_G} {Q : fw_Q} {v : fw_V} (hd : decode (fw_mC y) pc = .ok (.pop, 1)) (hc : fw_cat v = 1) (k : fw_WP y K0 (pc + 1) ls (st) K sl R M L Q) : fw_WP y K0 (pc) ls (v :: st) K sl R M L Q := by
  intro l D cA p e s m args below meth c bb H locs la hZ hO hY
  exact lv_pop hZ.1 hZ.2.1 hd ((fw_cv_cat bb v).trans hc) (k l D cA p e s m args below meth c bb H locs la hZ (fw_ot hO) hY)
theorem fw_dup2 {y : fw_M} {K0 pc K sl : Nat} {ls : List (Option fw_V)} {st : List fw_V} {R M : fw_F} {L : fw_G} {Q : fw_Q} {v u : fw_V} (hd : decode (fw_mC y) pc = .ok (.dup2, 1)) (hc : fw_cat v = 1) (hc2 : fw_cat u = 1) (k : fw_WP y K0 (pc + 1) ls (v :: u :: v :: u :: st) K sl R M L Q) : fw_WP y K0 (pc) ls (v :: u :: st) K sl R M L Q := by
  intro l D cA p e s m args below meth c bb H locs la hZ hO hY
  exact lv_dup2_11 hZ.1 hZ.2.1 hd ((fw_cv_cat bb v).trans hc) ((fw_cv_cat bb u).trans hc2) (k l D cA p e s m args below meth c bb H locs la hZ (fw_oc (fw_oh hO) (fw_oc (fw_oh (fw_ot hO)) hO)) hY)
theorem fw_dup2l {y : fw_M} {K0 pc K sl : Nat} {ls : List (Option fw_V)} {st : List fw_V} {R M : fw_F} {L : fw_G} {Q : fw_Q} {x : Int64} (hd : decode (fw_mC y) pc = .ok (.dup2, 1)) (k : fw_WP y K0 (pc + 1) ls (fw_l x :: fw_l x :: st) K sl R M L Q) : fw_WP y K0 (pc) ls (fw_l x :: st) K sl R M L Q := by
  intro l D cA p e s m args below meth c bb H locs la hZ hO hY
  exact lv_dup2_2 hZ.1 hZ.2.1 hd rfl (k l D cA p e s m args below meth c bb H locs la hZ (fw_oc fw_okl hO) hY)
theorem fw_icmp_eq {y : fw_M} {K0 pc K sl : Nat} {ls : List (Option fw_V)} {st : List fw_V} {R M : fw_F} {L : fw_G} {Q : fw_Q} {a b off : Int} (tgt : Nat) (hd : decode (fw_mC y) pc = .ok (.if_icmp .eq off, 3)) (ht : (pc : Int) + off = (tgt : Int)) (kt : a = b → fw_WP y K0 (tgt) ls (st) K sl R M L Q) (kf : ¬ (a = b) → fw_WP y K0 (pc + 3) ls (st) K sl R M L Q) : fw_WP y K0 (pc) ls (fw_i b :: fw_i a :: st) K sl R M L Q := by
  intro l D cA p e s m args below meth c bb H locs la hZ hO hY
  have hb : fw_ok b := fw_oh hO
  have ha : fw_ok a := fw_oh (fw_ot hO)
  exact lv_icmp_eq hZ.1 hZ.2.1 hd ht (fun q => kt ((fw_eq ha hb).mp q) l D cA p e s m args below meth c bb H locs la hZ (fw_ot (fw_ot hO)) hY) (fun q => kf (fun q2 => q ((fw_eq ha hb).mpr q2)) l D cA p e s m args below meth c bb H locs la hZ (fw_ot (fw_ot hO)) hY)
theorem fw_if_eq {y : fw_M} {K0 pc K sl : Nat} {ls : List (Option fw_V)} {st : List fw_V} {R M : fw_F} {L : fw_G} {Q : fw_Q} {a off : Int} (tgt : Nat) (hd : decode (fw_mC y) pc = .ok (.ifCond .eq off, 3)) (ht : (pc : Int) + off = (tgt : Int)) (kt : a = 0 → fw_WP y K0 (tgt) ls (st) K sl R M L Q) (kf : ¬ (a = 0) → fw_WP y K0 (pc + 3) ls (st) K sl R M L Q) : fw_WP y K0 (pc) ls (fw_i a :: st) K sl R M L Q := by
  intro l D cA p e s m args below meth c bb H locs la hZ hO hY
  have ha : fw_ok a := fw_oh hO
  exact lv_if_eq hZ.1 hZ.2.1 hd ht (fun q => kt ((fw_eq ha fw_ok0).mp q) l D cA p e s m args below meth c bb H locs la hZ (fw_ot hO) hY) (fun q => kf (fun q2 => q ((fw_eq ha fw_ok0).mpr q2)) l D cA p e s m args below meth c bb H locs la hZ (fw_ot hO) hY)
theorem fw_icmp_ne {y : fw_M} {K0 pc K sl : Nat} {ls : List (Option fw_V)} {st : List fw_V} {R M : fw_F} {L : fw_G} {Q : fw_Q} {a b off : Int} (tgt : Nat) (hd : decode (fw_mC y) pc = .ok (.if_icmp .ne off, 3)) (ht : (pc : Int) + off = (tgt : Int)) (kt : ¬ a = b → fw_WP y K0 (tgt) ls (st) K sl R M L Q) (kf : a = b → fw_WP y K0 (pc + 3) ls (st) K sl R M L Q) : fw_WP y K0 (pc) ls (fw_i b :: fw_i a :: st) K sl R M L Q := by
  intro l D cA p e s m args below meth c bb H locs la hZ hO hY
  have hb : fw_ok b := fw_oh hO
  have ha : fw_ok a := fw_oh (fw_ot hO)
  exact lv_icmp_ne hZ.1 hZ.2.1 hd ht (fun q => kt ((not_congr (fw_eq ha hb)).mp q) l D cA p e s m args below meth c bb H locs la hZ (fw_ot (fw_ot hO)) hY) (fun q => kf ((fw_eq ha hb).mp q) l D cA p e s m args below meth c bb H locs la hZ (fw_ot (fw_ot hO)) hY)
theorem fw_if_ne {y : fw_M} {K0 pc K sl : Nat} {ls : List (Option fw_V)} {st : List fw_V} {R M : fw_F} {L : fw_G} {Q : fw_Q} {a off : Int} (tgt : Nat) (hd : decode (fw_mC y) pc = .ok (.ifCond .ne off, 3)) (ht : (pc : Int) + off = (tgt : Int)) (kt : ¬ a = 0 → fw_WP y K0 (tgt) ls (st) K sl R M L Q) (kf : a = 0 → fw_WP y K0 (pc + 3) ls (st) K sl R M L Q) : fw_WP y K0 (pc) ls (fw_i a :: st) K sl R M L Q := by
  intro l D cA p e s m args below meth c bb H locs la hZ hO hY
  have ha : fw_ok a := fw_oh hO
  exact lv_if_ne hZ.1 hZ.2.1 hd ht (fun q => kt ((not_congr (fw_eq ha fw_ok0)).mp q) l D cA p e s m args below meth c bb H locs la hZ (fw_ot hO) hY) (fun q => kf ((fw_eq ha fw_ok0).mp q) l D cA p e s m args below meth c bb H locs la hZ (fw_ot hO) hY)
theorem fw_icmp_lt {y : fw_M} {K0 pc K sl : Nat} {ls : List (Option fw_V)} {st : List fw_V} {R M : fw_F} {L : fw_G} {Q : fw_Q} {a b off : Int} (tgt : Nat) (hd : decode (fw_mC y) pc = .ok (.if_icmp .lt off, 3)) (ht : (pc : Int) + off = (tgt : Int)) (kt : a < b → fw_WP y K0 (tgt) ls (st) K sl R M L Q) (kf : ¬ (a < b) → fw_WP y K0 (pc + 3) ls (st) K sl R M L Q) : fw_WP y K0 (pc) ls (fw_i b :: fw_i a :: st) K sl R M L Q := by
  intro l D cA p e s m args below meth c bb H locs la hZ hO hY
  have hb : fw_ok b := fw_oh hO
  have ha : fw_ok a := fw_oh (fw_ot hO)
  exact lv_icmp_lt hZ.1 hZ.2.1 hd ht (fun q => kt ((fw_lt ha hb).mp q) l D cA p e s m args below meth c bb H locs la hZ (fw_ot (fw_ot hO)) hY) (fun q => kf (fun q2 => q ((fw_lt ha hb).mpr q2)) l D cA p e s m args below meth c bb H locs la hZ (fw_ot (fw_ot hO)) hY)
theorem fw_if_lt {y : fw_M} {K0 pc K sl : Nat} {ls : List (Option fw_V)} {st : List fw_V} {R M : fw_F} {L : fw_G} {Q : fw_Q} {a off : Int} (tgt : Nat) (hd : decode (fw_mC y) pc = .ok (.ifCond .lt off, 3)) (ht : (pc : Int) + off = (tgt : Int)) (kt : a < 0 → fw_WP y K0 (tgt) ls (st) K sl R M L Q) (kf : ¬ (a < 0) → fw_WP y K0 (pc + 3) ls (st) K sl R M L Q) : fw_WP y K0 (pc) ls (fw_i a :: st) K sl R M L Q := by
  intro l D cA p e s m args below meth c bb H locs la hZ hO hY
  have ha : fw_ok a := fw_oh hO
  exact lv_if_lt hZ.1 hZ.2.1 hd ht (fun q => kt ((fw_lt ha fw_ok0).mp q) l D cA p e s m args below meth c bb H locs la hZ (fw_ot hO) hY) (fun q => kf (fun q2 => q ((fw_lt ha fw_ok0).mpr q2)) l D cA p e s m args below meth c bb H locs la hZ (fw_ot hO) hY)
theorem fw_icmp_ge {y : fw_M} {K0 pc K sl : Nat} {ls : List (Option fw_V)} {st : List fw_V} {R M : fw_F} {L : fw_G} {Q : fw_Q} {a b off : Int} (tgt : Nat) (hd : decode (fw_mC y) pc = .ok (.if_icmp .ge off, 3)) (ht : (pc : Int) + off = (tgt : Int)) (kt : b ≤ a → fw_WP y K0 (tgt) ls (st) K sl R M L Q) (kf : ¬ (b ≤ a) → fw_WP y K0 (pc + 3) ls (st) K sl R M L Q) : fw_WP y K0 (pc) ls (fw_i b :: fw_i a :: st) K sl R M L Q := by
  intro l D cA p e s m args below meth c bb H locs la hZ hO hY
  have hb : fw_ok b := fw_oh hO
  have ha : fw_ok a := fw_oh (fw_ot hO)
  exact lv_icmp_ge hZ.1 hZ.2.1 hd ht (fun q => kt ((fw_le hb ha).mp q) l D cA p e s m args below meth c bb H locs la hZ (fw_ot (fw_ot hO)) hY) (fun q => kf (fun q2 => q ((fw_le hb ha).mpr q2)) l D cA p e s m args below meth c bb H locs la hZ (fw_ot (fw_ot hO)) hY)
theorem fw_if_ge {y : fw_M} {K0 pc K sl : Nat} {ls : List (Option fw_V)} {st : List fw_V} {R M : fw_F} {L : fw_G} {Q : fw_Q} {a off : Int} (tgt : Nat) (hd : decode (fw_mC y) pc = .ok (.ifCond .ge off, 3)) (ht : (pc : Int) + off = (tgt : Int)) (kt : 0 ≤ a → fw_WP y K0 (tgt) ls (st) K sl R M L Q) (kf : ¬ (0 ≤ a) → fw_WP y K0 (pc + 3) ls (st) K sl R M L Q) : fw_WP y K0 (pc) ls (fw_i a :: st) K sl R M L Q := by
  intro l D cA p e s m args below meth c bb H locs la hZ hO hY
  have ha : fw_ok a := fw_oh hO
  exact lv_if_ge hZ.1 hZ.2.1 hd ht (fun q => kt ((fw_le fw_ok0 ha).mp q) l D cA p e s m args below meth c bb H locs la hZ (fw_ot hO) hY) (fun q => kf (fun q2 => q ((fw_le fw_ok0 ha).mpr q2)) l D cA p e s m args below meth c bb H locs la hZ (fw_ot hO) hY)
theorem fw_icmp_gt {y : fw_M} {K0 pc K sl : Nat} {ls : List (Option fw_V)} {st : List fw_V} {R M : fw_F} {L : fw_G} {Q : fw_Q} {a b off : Int} (tgt : Nat) (hd : decode (fw_mC y) pc = .ok (.if_icmp .gt off, 3)) (ht : (pc : Int) + off = (tgt : Int)) (kt : b < a → fw_WP y K0 (tgt) ls (st) K sl R M L Q) (kf : ¬ (b < a) → fw_WP y K0 (pc + 3) ls (st) K sl R M L Q) : fw_WP y K0 (pc) ls (fw_i b :: fw_i a :: st) K sl R M L Q := by
  intro l D cA p e s m args below meth c bb H locs la hZ hO hY
  have hb : fw_ok b := fw_oh hO
  have ha : fw_ok a := fw_oh (fw_ot hO)
  exact lv_icmp_gt hZ.1 hZ.2.1 hd ht (fun q => kt ((fw_lt hb ha).mp q) l D cA p e s m args below meth c bb H locs la hZ (fw_ot (fw_ot hO)) hY) (fun q => kf (fun q2 => q ((fw_lt hb ha).mpr q2)) l D cA p e s m args below meth c bb H locs la hZ (fw_ot (fw_ot hO)) hY)
theorem fw_if_gt {y : fw_M} {K0 pc K sl : Nat} {ls : List (Option fw_V)} {st : List fw_V} {R M : fw_F} {L : fw_G} {Q : fw_Q} {a off : Int} (tgt : Nat) (hd : decode (fw_mC y) pc = .ok (.ifCond .gt off, 3)) (ht : (pc : Int) + off = (tgt : Int)) (kt : 0 < a → fw_WP y K0 (tgt) ls (st) K sl R M L Q) (kf : ¬ (0 < a) → fw_WP y K0 (pc + 3) ls (st) K sl R M L Q) : fw_WP y K0 (pc) ls (fw_i a :: st) K sl R M L Q := by
  intro l D cA p e s m args below meth c bb H locs la hZ hO hY
  have ha : fw_ok a := fw_oh hO
  exact lv_if_gt hZ.1 hZ.2.1 hd ht (fun q => kt ((fw_lt fw_ok0 ha).mp q) l D cA p e s m args below meth c bb H locs la hZ (fw_ot hO) hY) (fun q => kf (fun q2 => q ((fw_lt fw_ok0 ha).mpr q2)) l D cA p e s m args below meth c bb H locs la hZ (fw_ot hO) hY)
theorem fw_icmp_le {y : fw_M} {K0 pc K sl : Nat} {ls : List (Option fw_V)} {st : List fw_V} {R M : fw_F} {L : fw_G} {Q : fw_Q} {a b off : Int} (tgt : Nat) (hd : decode (fw_mC y) pc = .ok (.if_icmp .le off, 3)) (ht : (pc : Int) + off = (tgt : Int)) (kt : a ≤ b → fw_WP y K0 (tgt) ls (st) K sl R M L Q) (kf : ¬ (a ≤ b) → fw_WP y K0 (pc + 3) ls (st) K sl R M L Q) : fw_WP y K0 (pc) ls (fw_i b :: fw_i a :: st) K sl R M L Q := by
  intro l D cA p e s m args below meth c bb H locs la hZ hO hY
  have hb : fw_ok b := fw_oh hO
  have ha : fw_ok a := fw_oh (fw_ot hO)
  exact lv_icmp_le hZ.1 hZ.2.1 hd ht (fun q => kt ((fw_le ha hb).mp q) l D cA p e s m args below meth c bb H locs la hZ (fw_ot (fw_ot hO)) hY) (fun q => kf (fun q2 => q ((fw_le ha hb).mpr q2)) l D cA p e s m args below meth c bb H locs la hZ (fw_ot (fw_ot hO)) hY)
theorem fw_if_le {y : fw_M} {K0 pc K sl : Nat} {ls : List (Option fw_V)} {st : List fw_V} {R M : fw_F} {L : fw_G} {Q : fw_Q} {a off : Int} (tgt : Nat) (hd : decode (fw_mC y) pc = .ok (.ifCond .le off, 3)) (ht : (pc : Int) + off = (tgt : Int)) (kt : a ≤ 0 → fw_WP y K0 (tgt) ls (st) K sl R M L Q) (kf : ¬ (a ≤ 0) → fw_WP y K0 (pc + 3) ls (st) K sl R M L Q) : fw_WP y K0 (pc) ls (fw_i a :: st) K sl R M L Q := by
  intro l D cA p e s m args below meth c bb H locs la hZ hO hY
  have ha : fw_ok a := fw_oh hO
  exact lv_if_le hZ.1 hZ.2.1 hd ht (fun q => kt ((fw_le ha fw_ok0).mp q) l D cA p e s m args below meth c bb H locs la hZ (fw_ot hO) hY) (fun q => kf (fun q2 => q ((fw_le ha fw_ok0).mpr q2)) l D cA p e s m args below meth c bb H locs la hZ (fw_ot hO) hY)
theorem fw_goto {y : fw_M} {K0 pc K sl : Nat} {ls : List (Option fw_V)} {st : List fw_V} {R M : fw_F} {L : fw_G} {Q : fw_Q} {off : Int} (tgt : Nat) (hd : decode (fw_mC y) pc = .ok (.goto off, 3)) (ht : (pc : Int) + off = (tgt : Int)) (k : fw_WP y K0 (tgt) ls (st) K sl R M L Q) : fw_WP y K0 (pc) ls (st) K sl R M L Q := by
  intro l D cA p e s m args below meth c bb H locs la hZ hO hY
  exact lv_goto hZ.1 hZ.2.1 hd ht (k l D cA p e s m args below meth c bb H locs la hZ hO hY)
theorem fw_tblOut {y : fw_M} {K0 pc K sl : Nat} {ls : List (Option fw_V)} {st : List fw_V} {R M : fw_F} {L : fw_G} {Q : fw_Q} {a dflt lo hi : Int} {offs : Array Int} {len : Nat} (tgt : Nat) (hd : decode (fw_mC y) pc = .ok (.tableswitch dflt lo hi offs, len)) (h : a < lo ∨ hi < a) (ht : (pc : Int) + dflt = (tgt : Int)) (k : fw_WP y K0 (tgt) ls (st) K sl R M L Q) : fw_WP y K0 (pc) ls (fw_i a :: st) K sl R M L Q := by
  intro l D cA p e s m args below meth c bb H locs la hZ hO hY
  have ha : fw_ok a := fw_oh hO
  exact lv_tableOut hZ.1 hZ.2.1 hd (by rw [fw_toInt ha]; exact h) ht (k l D cA p e s m args below meth c bb H locs la hZ (fw_ot hO) hY)
theorem fw_tblIn {y : fw_M} {K0 pc K sl : Nat} {ls : List (Option fw_V)} {st : List fw_V} {R M : fw_F} {L : fw_G} {Q : fw_Q} {a dflt lo hi off : Int} {offs : Array Int} {len : Nat} (tgt : Nat) (hd : decode (fw_mC y) pc = .ok (.tableswitch dflt lo hi offs, len)) (h1 : ¬ a < lo) (h2 : ¬ hi < a) (ho : offs[(a - lo).toNat]? = some off) (ht : (pc : Int) + off = (tgt : Int)) (k : fw_WP y K0 (tgt) ls (st) K sl R M L Q) : fw_WP y K0 (pc) ls (fw_i a :: st) K sl R M L Q := by
  intro l D cA p e s m args below meth c bb H locs la hZ hO hY
  have ha : fw_ok a := fw_oh hO
  exact lv_tableIn hZ.1 hZ.2.1 hd (by rw [fw_toInt ha]; exact h1) (by rw [fw_toInt ha]; exact h2) (by rw [fw_toInt ha]; exact ho) ht (k l D cA p e s m args below meth c bb H locs la hZ (fw_ot hO) hY)
end
section
/-! the heap: fields and arrays of a world -/
def fw_upd (M : fw_F) (k j v : Int) : fw_F := fun k' j' => if k' = k ∧ j' = j then v else M k' j'
def fw_upl (L : fw_G) (k j : Int) (v : Int64) : fw_G := fun k' j' => if k' = k ∧ j' = j then v else L k' j'
theorem fw_upd_ok {M : fw_F} {k j v : Int} (h : ∀ k j, fw_ok (M k j)) (hv : fw_ok v) : ∀ k' j', fw_ok (fw_upd M k j v k' j') := by
  intro k' j'
  unfold fw_upd
  split
  · exact hv
  · exact h k' j'
theorem fw_nat {k : Int} {K : Nat} (h : 0 ≤ k ∧ k < K) : k.toNat < K ∧ ((k.toNat : Nat) : Int) = k := ⟨by omega, by omega⟩
def fw_cls (ci : Nat) (C : String) (T : u_T) (N : Nat) (ty : Nat → FieldType) : Prop :=
  vwCl[ci]? = some (C, T, N) ∧ (∀ w ∈ u_ws C T N, w ∈ fw_tbl) ∧ (∀ k, k < N → parseFieldDescriptor (T k).2.2.1 = some (ty k)) ∧ (∀ a, a < N → ∀ b, b < N → a ≠ b → (T a).2.1 ≠ (T b).2.1)
/-- a field instruction's words: class ci of N fields, field f -/
def fw_fld (o idx ci N f : Nat) : Prop := ∃ (C : String) (T : u_T) (ty : Nat → FieldType), fw_cls ci C T N ty ∧ f < N ∧ Cond.fieldLink (fw_cn o) idx (T f).1 (T f).2.1 (T f).2.2.1 ∈ fw_tbl ∧ ci < 10
def fw_fldW (o idx ci N f : Nat) (t : FieldType) : Prop := ∃ (C : String) (T : u_T) (ty : Nat → FieldType), fw_cls ci C T N ty ∧ f < N ∧ Cond.fieldLink (fw_cn o) idx (T f).1 (T f).2.1 (T f).2.2.1 ∈ fw_tbl ∧ ci < 10 ∧ (T f).2.2.2 = false ∧ ty f = t
theorem fw_cell_kept {D : va_G} {cA : Nat → ClassId} {b w : Nat} {R M R' M' : fw_F} {L L' : fw_G} {H H' : Heap} {k : Nat} (h : fw_cell D cA b w R M L H k) (hq : H'[b + k]? = H[b + k]?) (hv : ∀ j : Int, R' k j = R k j ∧ M' k j = M k j ∧ L' k j = L k j) : fw_cell D cA b w R' M' L' H' k := by
  refine ⟨fun hc => ((h.1 hc).kept hq).to fun f _ => ?_, fun hc => ?_⟩
  · obtain ⟨e1, e2, e3⟩ := hv f
    rw [e1, e2, e3]
  · rw [hq, h.2 hc]
    congr 2
    funext j
    obtain ⟨e1, e2, e3⟩ := hv j
    rw [e1, e2, e3]
theorem fw_Wd_put {D : va_G} {cA : Nat → ClassId} {b w K : Nat} {R M R' M' : fw_F} {L L' : fw_G} {H H' : Heap} {q : Nat} (h : fw_Wd D cA b w K R M L H) (ho : ∀ x, x ≠ b + q → H'[x]? = H[x]?)
    (hv : ∀ (k : Nat) (j : Int), k ≠ q → R' k j = R k j ∧ M' k j = M k j ∧ L' k j = L k j) (hn : fw_cell D cA b w R' M' L' H' q) : fw_Wd D cA b w K R' M' L' H' := by
  intro k hk
  by_cases hkq : k = q
  · subst hkq
    exact hn
  · exact fw_cell_kept (h k hk) (ho _ (by omega)) (fun j => hv k j hkq)
theorem fw_getv {y : fw_M} {K0 pc K sl : Nat} {ls : List (Option fw_V)} {st : List fw_V} {R M : fw_F} {L : fw_G} {Q : fw_Q} {idx ci N f : Nat} {k : Int} {v : fw_V} (hd : decode (fw_mC y) pc = .ok (.getfield idx, 3)) (hf : fw_fld (fw_mO y) idx ci N f) (hl : fw_lay (fw_mW y) k = (ci, N)) (hk : 0 ≤ k ∧ k < K)
    (hv : ∀ b, fw_vv (fw_ftg ci f) b (R k f) (M k f) (L k f) = fw_cv b v) (hov : (∀ k j, fw_ok (M k j)) → fw_okV v) (kk : fw_WP y K0 (pc + 3) ls (v :: st) K sl R M L Q) : fw_WP y K0 pc ls (fw_r k :: st) K sl R M L Q := by
  intro l D cA p e s m args below meth c bb H locs la hZ hO hY
  obtain ⟨C, T, ty, ⟨hc, hin, -, -⟩, hfN, hw, hci⟩ := hf
  obtain ⟨hkn, hke⟩ := fw_nat hk
  have hcell := (hY.2.2.1 k.toNat hkn).1
  rw [hke, hl] at hcell
  have hob := hcell hci
  have hP : va_P D vwCl [(bb + k.toNat, .inr (ci, (List.range N).map (fun f => fw_vv (fw_ftg ci f) bb (R k f) (M k f) (L k f))))] H := by
    intro k' q hq
    have hz : k' < 1 := (List.getElem?_eq_some_iff.mp hq).1
    rw [show k' = 0 by omega] at hq
    cases hq
    refine ⟨_, hc, hob.to fun f hf => ?_⟩
    simp [vp_V, hf]
  refine va_get (ws := [(bb + k.toNat, .inr (ci, (List.range N).map (fun f => fw_vv (fw_ftg ci f) bb (R k f) (M k f) (L k f))))]) (v := fw_cv bb v) hZ.1 hZ.2.1 hZ.2.2.2.2.2.1 hin hZ.2.2.2.2.1 hZ.2.2.2.2.2.2.2.2.1.1 hP 0 rfl hc f hfN (hZ.2.2.2.2.2.1 _ hw) (fun _ h9 => h9) ?_ hd ?_
  · rw [← hv bb]
    simp [hfN]
  · exact kk l D cA p e s m args below meth c bb H locs la hZ (fw_oc (hov hY.2.1) (fw_ot hO)) hY
theorem fw_geti {y : fw_M} {K0 pc K sl : Nat} {ls : List (Option fw_V)} {st : List fw_V} {R M : fw_F} {L : fw_G} {Q : fw_Q} {idx ci N f : Nat} {k : Int} (j : Int) (hj : (f : Int) = j) (hd : decode (fw_mC y) pc = .ok (.getfield idx, 3)) (hf : fw_fld (fw_mO y) idx ci N f) (hl : fw_lay (fw_mW y) k = (ci, N)) (hk : 0 ≤ k ∧ k < K)
    (hg : fw_ftg ci f = 0) (kk : fw_WP y K0 (pc + 3) ls (fw_i (M k j) :: st) K sl R M L Q) : fw_WP y K0 pc ls (fw_r k :: st) K sl R M L Q := by
  subst hj
  exact fw_getv (v := fw_i (M k f)) hd hf hl hk (fun b => by rw [hg]; rfl) (fun h => h k f) kk
theorem fw_getl {y : fw_M} {K0 pc K sl : Nat} {ls : List (Option fw_V)} {st : List fw_V} {R M : fw_F} {L : fw_G} {Q : fw_Q} {idx ci N f : Nat} {k : Int} (j : Int) (hj : (f : Int) = j) (hd : decode (fw_mC y) pc = .ok (.getfield idx, 3)) (hf : fw_fld (fw_mO y) idx ci N f) (hl : fw_lay (fw_mW y) k = (ci, N)) (hk : 0 ≤ k ∧ k < K)
    (hg : fw_ftg ci f = 1) (kk : fw_WP y K0 (pc + 3) ls (fw_l (L k j) :: st) K sl R M L Q) : fw_WP y K0 pc ls (fw_r k :: st) K sl R M L Q := by
  subst hj
  exact fw_getv (v := fw_l (L k f)) hd hf hl hk (fun b => by rw [hg]; rfl) (fun _ => fw_okl) kk
theorem fw_getr {y : fw_M} {K0 pc K sl : Nat} {ls : List (Option fw_V)} {st : List fw_V} {R M : fw_F} {L : fw_G} {Q : fw_Q} {idx ci N f : Nat} {k : Int} (j q : Int) (hj : (f : Int) = j) (hd : decode (fw_mC y) pc = .ok (.getfield idx, 3)) (hf : fw_fld (fw_mO y) idx ci N f) (hl : fw_lay (fw_mW y) k = (ci, N)) (hk : 0 ≤ k ∧ k < K)
    (hg : fw_ftg ci f = 2) (hq : R k j = q) (hq0 : 0 ≤ q) (kk : fw_WP y K0 (pc + 3) ls (fw_r q :: st) K sl R M L Q) : fw_WP y K0 pc ls (fw_r k :: st) K sl R M L Q := by
  subst hj
  refine fw_getv hd hf hl hk (fun b => ?_) (fun _ => fw_okr) kk
  rw [hg, hq]
  show (if q < 0 then Value.null else .ref (b + q.toNat)) = .ref (b + q.toNat)
  rw [if_neg (by omega)]
/-- a write at cell k of any kind: what remains of the frame -/
theorem fw_inA {b w K : Nat} {k : Int} (hK : K ≤ fw_KW w) (hk : 0 ≤ k ∧ k < K) : fw_A b w (b + k.toNat) := by
  refine ⟨by omega, ?_⟩
  have := (fw_nat hk).1
  omega
theorem fw_putv {y : fw_M} {K0 pc K sl : Nat} {ls : List (Option fw_V)} {st : List fw_V} {R M M' : fw_F} {L L' : fw_G} {Q : fw_Q} {idx ci N f : Nat} {k : Int} {v : fw_V} {t : FieldType} (hd : decode (fw_mC y) pc = .ok (.putfield idx, 3)) (hf : fw_fldW (fw_mO y) idx ci N f t) (hl : fw_lay (fw_mW y) k = (ci, N)) (hK : K ≤ fw_KW (fw_mW y)) (hk : 0 ≤ k ∧ k < K)
    (hn : ∀ b, narrow t (fw_cv b v) = fw_cv b v) (hft : ∀ b, fits t (fw_cv b v) = true)
    (hv : ∀ b, fw_vv (fw_ftg ci f) b (R k f) (M' k f) (L' k f) = fw_cv b v) (hoff : ∀ (q j : Int), ¬ (q = k ∧ j = f) → M' q j = M q j ∧ L' q j = L q j) (hok : (∀ k j, fw_ok (M k j)) → fw_okV v → ∀ k j, fw_ok (M' k j))
    (kk : fw_WP y K0 (pc + 3) ls st K sl R M' L' Q) : fw_WP y K0 pc ls (v :: fw_r k :: st) K sl R M L Q := by
  intro l D cA p e s m args below meth c bb H locs la hZ hO hY
  obtain ⟨C, T, ty, ⟨hc, hin, hty, hnm⟩, hfN, hw, hci, hfin, hty2⟩ := hf
  obtain ⟨hkn, hke⟩ := fw_nat hk
  have hcell := (hY.2.2.1 k.toNat hkn).1
  rw [hke, hl] at hcell
  obtain ⟨cell, q1, q2, q3, q4⟩ := hcell hci
  have hKK := hZ.2.2.2.2.2.2.2.2.1.1
  have hts := hZ.2.2.2.2.2.1
  have hap := va_apart (own := fw_cn (fw_mO y)) hts hin ty hty hnm hKK hc
  obtain ⟨hS, hfc, kC, hkC, hkind⟩ := hKK.1 ci _ hc
  obtain ⟨cf, kf, fi, fd, hi, hsl⟩ := hS f hfN
  have hlay := hts _ (hin _ (u_in_lay hfN))
  unfold u_lay at hlay
  rw [if_neg (by rw [hfin]; decide)] at hlay
  have hst := (u_facts hfc hkC (u_lays hts hin hfN) hi).1
  have h6 := u_store hfc hkC hkind hlay hi (by rw [hty f hfN, hty2]) (hn bb) (hft bb)
  refine W.putK hZ.1 hZ.2.1 (f := fd) ⟨hZ.2.2.2.2.1, hts _ hw, ⟨_, _, _, hi⟩, hst⟩ (by rw [q2]; exact h6) q1 q3 (by rw [hsl]; exact k2_hasslot (q4 f hfN)) rfl rfl hd fun H1 e1 e2 e3 => ?_
  rw [hsl] at e1 ⊢
  refine kk l D cA p e s m args below meth c bb H1 _ la hZ (fw_ot (fw_ot hO)) ⟨hY.1, hok hY.2.1 (fw_oh hO), ?_, ⟨hY.2.2.2.1.1, e2.trans hY.2.2.2.1.2⟩, hY.2.2.2.2.1.put e2 e3 (fw_inA hK hk), hY.2.2.2.2.2⟩
  refine fw_Wd_put (q := k.toNat) hY.2.2.1 e3 (fun k' j hne => ?_) ⟨fun _ => ?_, fun h => ?_⟩
  · obtain ⟨g1, g2⟩ := hoff k' j (fun q => hne (by omega))
    exact ⟨rfl, g1, g2⟩
  · rw [hke, hl]
    refine t_OB.to (V := updV (fun f => fw_vv (fw_ftg ci f) bb (R k f) (M k f) (L k f)) f (fw_cv bb v)) ⟨_, e1, q2, q3, t_set q4 hap hfN _⟩ (fun j hj => ?_)
    unfold updV
    by_cases hjf : j = f
    · subst hjf
      rw [if_pos rfl]
      exact (hv bb).symm
    · rw [if_neg hjf]
      obtain ⟨g1, g2⟩ := hoff k j (fun q => hjf (by omega))
      show _ = fw_vv _ _ _ _ _
      rw [g1, g2]
  · rw [hke, hl] at h
    exact absurd h (by omega)
theorem fw_puti {y : fw_M} {K0 pc K sl : Nat} {ls : List (Option fw_V)} {st : List fw_V} {R M : fw_F} {L : fw_G} {Q : fw_Q} {idx ci N f : Nat} {k v : Int} (j : Int) (hj : (f : Int) = j) (hd : decode (fw_mC y) pc = .ok (.putfield idx, 3)) (hf : fw_fldW (fw_mO y) idx ci N f .int) (hl : fw_lay (fw_mW y) k = (ci, N)) (hK : K ≤ fw_KW (fw_mW y)) (hk : 0 ≤ k ∧ k < K)
    (hg : fw_ftg ci f = 0) (kk : fw_WP y K0 (pc + 3) ls st K sl R (fw_upd M k j v) L Q) : fw_WP y K0 pc ls (fw_i v :: fw_r k :: st) K sl R M L Q := by
  subst hj
  refine fw_putv hd hf hl hK hk (fun b => rfl) (fun b => rfl) (fun b => ?_) (fun q j h => ⟨if_neg h, rfl⟩) (fun h hv => fw_upd_ok h hv) kk
  rw [hg]
  show Value.int (Int32.ofInt (fw_upd M k f v k f)) = .int (Int32.ofInt v)
  rw [show fw_upd M k f v k f = v from if_pos ⟨rfl, rfl⟩]
theorem fw_putl {y : fw_M} {K0 pc K sl : Nat} {ls : List (Option fw_V)} {st : List fw_V} {R M : fw_F} {L : fw_G} {Q : fw_Q} {idx ci N f : Nat} {k : Int} {v : Int64} (j : Int) (hj : (f : Int) = j) (hd : decode (fw_mC y) pc = .ok (.putfield idx, 3)) (hf : fw_fldW (fw_mO y) idx ci N f .long) (hl : fw_lay (fw_mW y) k = (ci, N)) (hK : K ≤ fw_KW (fw_mW y)) (hk : 0 ≤ k ∧ k < K)
    (hg : fw_ftg ci f = 1) (kk : fw_WP y K0 (pc + 3) ls st K sl R M (fw_upl L k j v) Q) : fw_WP y K0 pc ls (fw_l v :: fw_r k :: st) K sl R M L Q := by
  subst hj
  refine fw_putv hd hf hl hK hk (fun b => rfl) (fun b => rfl) (fun b => ?_) (fun q j h => ⟨rfl, if_neg h⟩) (fun h _ => h) kk
  rw [hg]
  show Value.long (fw_upl L k f v k f) = .long v
  rw [show fw_upl L k f v k f = v from if_pos ⟨rfl, rfl⟩]
/-! arrays -/
theorem fw_acell {D : va_G} {cA : Nat → ClassId} {b w K n t : Nat} {R M : fw_F} {L : fw_G} {H : Heap} {k : Int} (hW : fw_Wd D cA b w K R M L H) (hl : fw_lay w k = (t, n)) (ht : 10 ≤ t) (hk : 0 ≤ k ∧ k < K) : H[b + k.toNat]? = some (arrV (cA (t - 10)) n (fun j => fw_vv (fw_atg t) b (R k j) (M k j) (L k j))) := by
  obtain ⟨hkn, hke⟩ := fw_nat hk
  have h := (hW k.toNat hkn).2
  rw [hke, hl] at h
  exact h ht
theorem fw_jn {j : Int} {n : Nat} (h : 0 ≤ j ∧ j < n) : j.toNat < n ∧ ((j.toNat : Nat) : Int) = j := ⟨by omega, by omega⟩
theorem fw_iaload {y : fw_M} {K0 pc K sl : Nat} {ls : List (Option fw_V)} {st : List fw_V} {R M : fw_F} {L : fw_G} {Q : fw_Q} {n : Nat} {k j : Int} (hd : decode (fw_mC y) pc = .ok (.iaload, 1)) (hl : fw_lay (fw_mW y) k = (10, n)) (hk : 0 ≤ k ∧ k < K) (hj : 0 ≤ j ∧ j < n)
    (kk : fw_WP y K0 (pc + 1) ls (fw_i (M k j) :: st) K sl R M L Q) : fw_WP y K0 pc ls (fw_i j :: fw_r k :: st) K sl R M L Q := by
  intro l D cA p e s m args below meth c bb H locs la hZ hO hY
  have hc := fw_acell hY.2.2.1 hl (by decide) hk
  have ho : fw_ok j := fw_oh hO
  have hin := fw_in hj.1 hj.2 ho
  refine W.iald (v := fw_cv bb (fw_i (M k j))) hZ.1 hZ.2.1 hc ((hZ.2.2.2.2.2.2.2.2.1.1.2 0 _ rfl).1 n _) (fun q => by cases q) (by rw [arrV_size]; exact hin) ?_ rfl rfl hd (kk l D cA p e s m args below meth c bb H locs la hZ (fw_oc (hY.2.1 k j) (fw_ot (fw_ot hO))) hY)
  obtain ⟨h1, h2⟩ := fw_jn hj
  rw [fw_clamp ho, arrV_read _ _ h1, h2]
  rfl
theorem fw_baload {y : fw_M} {K0 pc K sl : Nat} {ls : List (Option fw_V)} {st : List fw_V} {R M : fw_F} {L : fw_G} {Q : fw_Q} {n : Nat} {k j : Int} (hd : decode (fw_mC y) pc = .ok (.baload, 1)) (hl : fw_lay (fw_mW y) k = (11, n)) (hk : 0 ≤ k ∧ k < K) (hj : 0 ≤ j ∧ j < n)
    (kk : fw_WP y K0 (pc + 1) ls (fw_i (M k j) :: st) K sl R M L Q) : fw_WP y K0 pc ls (fw_i j :: fw_r k :: st) K sl R M L Q := by
  intro l D cA p e s m args below meth c bb H locs la hZ hO hY
  have hc := fw_acell hY.2.2.1 hl (by decide) hk
  have ho : fw_ok j := fw_oh hO
  have hin := fw_in hj.1 hj.2 ho
  refine W.zald (v := fw_cv bb (fw_i (M k j))) hZ.1 hZ.2.1 hc ((hZ.2.2.2.2.2.2.2.2.1.1.2 1 _ rfl).1 n _) (fun q => by cases q) (by rw [arrV_size]; exact hin) ?_ rfl rfl hd (kk l D cA p e s m args below meth c bb H locs la hZ (fw_oc (hY.2.1 k j) (fw_ot (fw_ot hO))) hY)
  obtain ⟨h1, h2⟩ := fw_jn hj
  rw [fw_clamp ho, arrV_read _ _ h1, h2]
  rfl
theorem fw_laload {y : fw_M} {K0 pc K sl : Nat} {ls : List (Option fw_V)} {st : List fw_V} {R M : fw_F} {L : fw_G} {Q : fw_Q} {n : Nat} {k j : Int} (hd : decode (fw_mC y) pc = .ok (.laload, 1)) (hl : fw_lay (fw_mW y) k = (12, n)) (hk : 0 ≤ k ∧ k < K) (hj : 0 ≤ j ∧ j < n)
    (kk : fw_WP y K0 (pc + 1) ls (fw_l (L k j) :: st) K sl R M L Q) : fw_WP y K0 pc ls (fw_i j :: fw_r k :: st) K sl R M L Q := by
  intro l D cA p e s m args below meth c bb H locs la hZ hO hY
  have hc := fw_acell hY.2.2.1 hl (by decide) hk
  have ho : fw_ok j := fw_oh hO
  have hin := fw_in hj.1 hj.2 ho
  refine W.lald (v := fw_cv bb (fw_l (L k j))) hZ.1 hZ.2.1 hc ((hZ.2.2.2.2.2.2.2.2.1.1.2 2 _ rfl).1 n _) (fun q => by cases q) (by rw [arrV_size]; exact hin) ?_ rfl rfl hd (kk l D cA p e s m args below meth c bb H locs la hZ (fw_oc fw_okl (fw_ot (fw_ot hO))) hY)
  obtain ⟨h1, h2⟩ := fw_jn hj
  rw [fw_clamp ho, arrV_read _ _ h1, h2]
  rfl
theorem fw_aaload {y : fw_M} {K0 pc K sl : Nat} {ls : List (Option fw_V)} {st : List fw_V} {R M : fw_F} {L : fw_G} {Q : fw_Q} {n t : Nat} {k j : Int} (q : Int) (hd : decode (fw_mC y) pc = .ok (.aaload, 1)) (hl : fw_lay (fw_mW y) k = (t, n)) (ht : t = 13 ∨ t = 14) (hk : 0 ≤ k ∧ k < K) (hj : 0 ≤ j ∧ j < n) (hq : R k j = q) (hq0 : 0 ≤ q)
    (kk : fw_WP y K0 (pc + 1) ls (fw_r q :: st) K sl R M L Q) : fw_WP y K0 pc ls (fw_i j :: fw_r k :: st) K sl R M L Q := by
  intro l D cA p e s m args below meth c bb H locs la hZ hO hY
  have ho : fw_ok j := fw_oh hO
  have hin := fw_in hj.1 hj.2 ho
  obtain ⟨h1, h2⟩ := fw_jn hj
  have hk2 := kk l D cA p e s m args below meth c bb H locs la hZ (fw_oc fw_okr (fw_ot (fw_ot hO))) hY
  rcases ht with rfl | rfl
  · have hc := fw_acell hY.2.2.1 hl (by decide) hk
    refine W.aald (v := fw_cv bb (fw_r q)) hZ.1 hZ.2.1 hc ((hZ.2.2.2.2.2.2.2.2.1.1.2 3 _ rfl).1 n _) rfl (fun q => by cases q) (by rw [arrV_size]; exact hin) ?_ rfl rfl hd hk2
    rw [fw_clamp ho, arrV_read _ _ h1, h2, hq]
    show some (if q < 0 then Value.null else .ref (bb + q.toNat)) = _
    rw [if_neg (by omega)]
    rfl
  · have hc := fw_acell hY.2.2.1 hl (by decide) hk
    refine W.aald (v := fw_cv bb (fw_r q)) hZ.1 hZ.2.1 hc ((hZ.2.2.2.2.2.2.2.2.1.1.2 4 _ rfl).1 n _) rfl (fun q => by cases q) (by rw [arrV_size]; exact hin) ?_ rfl rfl hd hk2
    rw [fw_clamp ho, arrV_read _ _ h1, h2, hq]
    show some (if q < 0 then Value.null else .ref (bb + q.toNat)) = _
    rw [if_neg (by omega)]
    rfl
theorem fw_alen {y : fw_M} {K0 pc K sl : Nat} {ls : List (Option fw_V)} {st : List fw_V} {R M : fw_F} {L : fw_G} {Q : fw_Q} {n t : Nat} {k : Int} (nn : Int) (hnn : (n : Int) = nn) (hd : decode (fw_mC y) pc = .ok (.arraylength, 1)) (hl : fw_lay (fw_mW y) k = (t, n)) (ht : t = 10 ∨ t = 12) (hk : 0 ≤ k ∧ k < K) (hno : fw_ok nn)
    (kk : fw_WP y K0 (pc + 1) ls (fw_i nn :: st) K sl R M L Q) : fw_WP y K0 pc ls (fw_r k :: st) K sl R M L Q := by
  intro l D cA p e s m args below meth c bb H locs la hZ hO hY
  subst hnn
  have hk2 := kk l D cA p e s m args below meth c bb H locs la hZ (fw_oc hno (fw_ot hO)) hY
  rcases ht with rfl | rfl
  · refine W.alen hZ.1 hZ.2.1 (fw_acell hY.2.2.1 hl (by decide) hk) ((hZ.2.2.2.2.2.2.2.2.1.1.2 0 _ rfl).1 n _) ?_ rfl rfl hd hk2
    rw [arrV_size]
    rfl
  · refine W.alen hZ.1 hZ.2.1 (fw_acell hY.2.2.1 hl (by decide) hk) ((hZ.2.2.2.2.2.2.2.2.1.1.2 2 _ rfl).1 n _) ?_ rfl rfl hd hk2
    rw [arrV_size]
    rfl
/-- the world behind an array store -/
theorem fw_astd {D : va_G} {cA : Nat → ClassId} {b w K n t : Nat} {R M R' M' : fw_F} {L L' : fw_G} {H H' : Heap} {k j : Int} {v : Value} (hW : fw_Wd D cA b w K R M L H) (hl : fw_lay w k = (t, n)) (ht : 10 ≤ t) (hk : 0 ≤ k ∧ k < K) (hj : 0 ≤ j ∧ j < n)
    (e1 : H'[b + k.toNat]? = some ((arrV (cA (t - 10)) n (fun j => fw_vv (fw_atg t) b (R k j) (M k j) (L k j))).setSlot j.toNat v)) (e3 : ∀ q, q ≠ b + k.toNat → H'[q]? = H[q]?)
    (hv : fw_vv (fw_atg t) b (R' k j) (M' k j) (L' k j) = v) (hoff : ∀ (q i : Int), ¬ (q = k ∧ i = j) → R' q i = R q i ∧ M' q i = M q i ∧ L' q i = L q i) : fw_Wd D cA b w K R' M' L' H' := by
  obtain ⟨hkn, hke⟩ := fw_nat hk
  refine fw_Wd_put (q := k.toNat) hW e3 (fun k' i hne => hoff k' i (fun q => hne (by omega))) ⟨fun h => ?_, fun _ => ?_⟩
  · rw [hke, hl] at h
    exact absurd h (by show ¬ t < 10; omega)
  · rw [hke, hl, e1, arrV_store]
    congr 2
    funext i
    unfold updV
    by_cases hi : i = j.toNat
    · rw [if_pos hi, ← hv, hi, (fw_jn hj).2]
    · rw [if_neg hi]
      obtain ⟨g1, g2, g3⟩ := hoff k i (fun q => hi (by omega))
      rw [g1, g2, g3]
theorem fw_iastore {y : fw_M} {K0 pc K sl : Nat} {ls : List (Option fw_V)} {st : List fw_V} {R M : fw_F} {L : fw_G} {Q : fw_Q} {n : Nat} {k j v : Int} (hd : decode (fw_mC y) pc = .ok (.iastore, 1)) (hl : fw_lay (fw_mW y) k = (10, n)) (hK : K ≤ fw_KW (fw_mW y)) (hk : 0 ≤ k ∧ k < K) (hj : 0 ≤ j ∧ j < n)
    (kk : fw_WP y K0 (pc + 1) ls st K sl R (fw_upd M k j v) L Q) : fw_WP y K0 pc ls (fw_i v :: fw_i j :: fw_r k :: st) K sl R M L Q := by
  intro l D cA p e s m args below meth c bb H locs la hZ hO hY
  have hc := fw_acell hY.2.2.1 hl (by decide) hk
  have ho : fw_ok j := fw_oh (fw_ot hO)
  have hin := fw_in hj.1 hj.2 ho
  refine W.iast hZ.1 hZ.2.1 hc ((hZ.2.2.2.2.2.2.2.2.1.1.2 0 _ rfl).1 n _) (fun q => by cases q) (by rw [arrV_size]; exact hin) rfl rfl hd fun H1 e1 e2 e3 => ?_
  rw [fw_clamp ho] at e1
  refine kk l D cA p e s m args below meth c bb H1 _ la hZ (fw_ot (fw_ot (fw_ot hO))) ⟨hY.1, fw_upd_ok hY.2.1 (fw_oh hO), ?_, ⟨hY.2.2.2.1.1, e2.trans hY.2.2.2.1.2⟩, hY.2.2.2.2.1.put e2 e3 (fw_inA hK hk), hY.2.2.2.2.2⟩
  refine fw_astd hY.2.2.1 hl (by decide) hk hj e1 e3 ?_ (fun q i h => ⟨rfl, if_neg h, rfl⟩)
  show Value.int (Int32.ofInt (fw_upd M k j v k j)) = .int (Int32.ofInt v)
  rw [show fw_upd M k j v k j = v from if_pos ⟨rfl, rfl⟩]
theorem fw_bastore {y : fw_M} {K0 pc K sl : Nat} {ls : List (Option fw_V)} {st : List fw_V} {R M : fw_F} {L : fw_G} {Q : fw_Q} {n : Nat} {k j v : Int} (hd : decode (fw_mC y) pc = .ok (.bastore, 1)) (hl : fw_lay (fw_mW y) k = (11, n)) (hK : K ≤ fw_KW (fw_mW y)) (hk : 0 ≤ k ∧ k < K) (hj : 0 ≤ j ∧ j < n) (hb : v = 0 ∨ v = 1)
    (kk : fw_WP y K0 (pc + 1) ls st K sl R (fw_upd M k j v) L Q) : fw_WP y K0 pc ls (fw_i v :: fw_i j :: fw_r k :: st) K sl R M L Q := by
  intro l D cA p e s m args below meth c bb H locs la hZ hO hY
  have hc := fw_acell hY.2.2.1 hl (by decide) hk
  have ho : fw_ok j := fw_oh (fw_ot hO)
  have hin := fw_in hj.1 hj.2 ho
  refine W.zast hZ.1 hZ.2.1 hc ((hZ.2.2.2.2.2.2.2.2.1.1.2 1 _ rfl).1 n _) (fun q => by cases q) (by rw [arrV_size]; exact hin) rfl rfl hd fun H1 e1 e2 e3 => ?_
  rw [fw_clamp ho] at e1
  refine kk l D cA p e s m args below meth c bb H1 _ la hZ (fw_ot (fw_ot (fw_ot hO))) ⟨hY.1, fw_upd_ok hY.2.1 (fw_oh hO), ?_, ⟨hY.2.2.2.1.1, e2.trans hY.2.2.2.1.2⟩, hY.2.2.2.2.1.put e2 e3 (fw_inA hK hk), hY.2.2.2.2.2⟩
  refine fw_astd hY.2.2.1 hl (by decide) hk hj e1 e3 ?_ (fun q i h => ⟨rfl, if_neg h, rfl⟩)
  show Value.int (Int32.ofInt (fw_upd M k j v k j)) = .int (Int32.ofInt v &&& 1)
  rw [show fw_upd M k j v k j = v from if_pos ⟨rfl, rfl⟩]
  rcases hb with rfl | rfl <;> rfl
theorem fw_lastore {y : fw_M} {K0 pc K sl : Nat} {ls : List (Option fw_V)} {st : List fw_V} {R M : fw_F} {L : fw_G} {Q : fw_Q} {n : Nat} {k j : Int} {v : Int64} (hd : decode (fw_mC y) pc = .ok (.lastore, 1)) (hl : fw_lay (fw_mW y) k = (12, n)) (hK : K ≤ fw_KW (fw_mW y)) (hk : 0 ≤ k ∧ k < K) (hj : 0 ≤ j ∧ j < n)
    (kk : fw_WP y K0 (pc + 1) ls st K sl R M (fw_upl L k j v) Q) : fw_WP y K0 pc ls (fw_l v :: fw_i j :: fw_r k :: st) K sl R M L Q := by
  intro l D cA p e s m args below meth c bb H locs la hZ hO hY
  have hc := fw_acell hY.2.2.1 hl (by decide) hk
  have ho : fw_ok j := fw_oh (fw_ot hO)
  have hin := fw_in hj.1 hj.2 ho
  refine W.last hZ.1 hZ.2.1 hc ((hZ.2.2.2.2.2.2.2.2.1.1.2 2 _ rfl).1 n _) (fun q => by cases q) (by rw [arrV_size]; exact hin) rfl rfl hd fun H1 e1 e2 e3 => ?_
  rw [fw_clamp ho] at e1
  refine kk l D cA p e s m args below meth c bb H1 _ la hZ (fw_ot (fw_ot (fw_ot hO))) ⟨hY.1, hY.2.1, ?_, ⟨hY.2.2.2.1.1, e2.trans hY.2.2.2.1.2⟩, hY.2.2.2.2.1.put e2 e3 (fw_inA hK hk), hY.2.2.2.2.2⟩
  refine fw_astd hY.2.2.1 hl (by decide) hk hj e1 e3 ?_ (fun q i h => ⟨rfl, rfl, if_neg h⟩)
  show Value.long (fw_upl L k j v k j) = .long v
  rw [show fw_upl L k j v k j = v from if_pos ⟨rfl, rfl⟩]
end
section
/-! returns -/
theorem fw_ret {y : fw_M} {D : va_G} {cA : Nat → ClassId} {b K0 K : Nat} {R M : fw_F} {L : fw_G} {Q : fw_Q} {ls : List (Option fw_V)} {s : State} {H : Heap} {locs : List Loc} {la : Array Slot} {args : Array Value} {r : Option fw_V} (hY : fw_Y y D cA b K0 K R M L ls s H locs la) (hK : K = K0 + fw_mc y) (hQ : Q r K R M L) (hr : ∀ v, r = some v → fw_okV v) : ∀ t : State, t.heap = H → s.WarmedH t.vm → fw_QC y D cA b K0 Q args s (.returned (r.map (fw_cv b))) t := by
  intro t ht _
  refine ⟨⟨r, K, R, M, L, rfl, hQ, hr, hY.2.1, hK, ?_, by rw [ht]; exact hY.2.2.1⟩, hY.2.2.2.2.1.F ht⟩
  rw [ht, hY.2.2.2.1.2]
  omega
theorem fw_ireturn {y : fw_M} {K0 pc K sl : Nat} {ls : List (Option fw_V)} {R M : fw_F} {L : fw_G} {Q : fw_Q} {v : Int} (hd : decode (fw_mC y) pc = .ok (.ireturn, 1)) (hT : fw_mT y = some .int) (hK : K = K0 + fw_mc y) (hs : sl = fw_ms y) (hQ : fw_ok v → Q (some (fw_i v)) K R M L) : fw_WP y K0 pc ls [fw_i v] K sl R M L Q := by
  intro l D cA p e s m args below meth c bb H locs la hZ hO hY
  have hlocks := hZ.2.2.2.2.2.2.1
  have h := W.iret (p := p) (l := l) (e := e) (R := fw_rm y) (s := s) (m := m) (below := below) (meth := meth) (c := c) (cells := K - K0) (slots := sl) (ls := la) (free := fw_A bb (fw_mW y)) (Qc := fw_QC y D cA bb K0 Q) (v := Int32.ofInt v) hZ.1 hZ.2.1 (hZ.2.2.1.trans hT) (fw_ret (args := args) (r := some (fw_i v)) hY hK (hQ (fw_oh hO)) (fun w hw => by cases hw; exact fw_oh hO)) hY.2.2.2.2.1.2.2 hd
  rw [show K - K0 = fw_mc y by omega] at h ⊢
  subst hs
  exact h
theorem fw_zreturn {y : fw_M} {K0 pc K sl : Nat} {ls : List (Option fw_V)} {R M : fw_F} {L : fw_G} {Q : fw_Q} {v : Int} (hd : decode (fw_mC y) pc = .ok (.ireturn, 1)) (hT : fw_mT y = some .boolean) (hv : v = 0 ∨ v = 1) (hK : K = K0 + fw_mc y) (hs : sl = fw_ms y) (hQ : Q (some (fw_i v)) K R M L) : fw_WP y K0 pc ls [fw_i v] K sl R M L Q := by
  intro l D cA p e s m args below meth c bb H locs la hZ hO hY
  have hlocks := hZ.2.2.2.2.2.2.1
  have h := W.zret (p := p) (l := l) (e := e) (R := fw_rm y) (s := s) (m := m) (below := below) (meth := meth) (c := c) (cells := K - K0) (slots := sl) (ls := la) (free := fw_A bb (fw_mW y)) (Qc := fw_QC y D cA bb K0 Q) (v := Int32.ofInt v) hZ.1 hZ.2.1 (hZ.2.2.1.trans hT) (by rcases hv with rfl | rfl <;> rfl) (fw_ret (args := args) (r := some (fw_i v)) hY hK hQ (fun w hw => by cases hw; exact fw_oh hO)) hY.2.2.2.2.1.2.2 hd
  rw [show K - K0 = fw_mc y by omega] at h ⊢
  subst hs
  exact h
theorem fw_lreturn {y : fw_M} {K0 pc K sl : Nat} {ls : List (Option fw_V)} {R M : fw_F} {L : fw_G} {Q : fw_Q} {v : Int64} (hd : decode (fw_mC y) pc = .ok (.lreturn, 1)) (hT : fw_mT y = some .long) (hK : K = K0 + fw_mc y) (hs : sl = fw_ms y) (hQ : Q (some (fw_l v)) K R M L) : fw_WP y K0 pc ls [fw_l v] K sl R M L Q := by
  intro l D cA p e s m args below meth c bb H locs la hZ hO hY
  have hlocks := hZ.2.2.2.2.2.2.1
  have h := W.lret (p := p) (l := l) (e := e) (R := fw_rm y) (s := s) (m := m) (below := below) (meth := meth) (c := c) (cells := K - K0) (slots := sl) (ls := la) (free := fw_A bb (fw_mW y)) (Qc := fw_QC y D cA bb K0 Q) (v := v) hZ.1 hZ.2.1 (hZ.2.2.1.trans hT) (fw_ret (args := args) (r := some (fw_l v)) hY hK hQ (fun w hw => by cases hw; exact fw_oh hO)) hY.2.2.2.2.1.2.2 hd
  rw [show K - K0 = fw_mc y by omega] at h ⊢
  subst hs
  exact h
theorem fw_areturn {y : fw_M} {K0 pc K sl : Nat} {ls : List (Option fw_V)} {R M : fw_F} {L : fw_G} {Q : fw_Q} {k : Int} {C : String} (hd : decode (fw_mC y) pc = .ok (.areturn, 1)) (hT : fw_mT y = some (.object C)) (hK : K = K0 + fw_mc y) (hs : sl = fw_ms y) (hQ : Q (some (fw_r k)) K R M L) : fw_WP y K0 pc ls [fw_r k] K sl R M L Q := by
  intro l D cA p e s m args below meth c bb H locs la hZ hO hY
  have hlocks := hZ.2.2.2.2.2.2.1
  have h := W.aret (p := p) (l := l) (e := e) (R := fw_rm y) (s := s) (m := m) (below := below) (meth := meth) (c := c) (cells := K - K0) (slots := sl) (ls := la) (free := fw_A bb (fw_mW y)) (Qc := fw_QC y D cA bb K0 Q) (v := .ref (bb + k.toNat)) hZ.1 hZ.2.1 (hZ.2.2.1.trans hT) (Or.inl ⟨C, rfl⟩) (Or.inr ⟨_, rfl⟩) (fw_ret (args := args) (r := some (fw_r k)) hY hK hQ (fun w hw => by cases hw; exact fw_okr)) hY.2.2.2.2.1.2.2 hd
  rw [show K - K0 = fw_mc y by omega] at h ⊢
  subst hs
  exact h
theorem fw_vreturn {y : fw_M} {K0 pc K sl : Nat} {ls : List (Option fw_V)} {R M : fw_F} {L : fw_G} {Q : fw_Q} (hd : decode (fw_mC y) pc = .ok (.return_, 1)) (hT : fw_mT y = none) (hK : K = K0 + fw_mc y) (hs : sl = fw_ms y) (hQ : Q none K R M L) : fw_WP y K0 pc ls [] K sl R M L Q := by
  intro l D cA p e s m args below meth c bb H locs la hZ hO hY
  have hlocks := hZ.2.2.2.2.2.2.1
  have h := W.vret (p := p) (l := l) (e := e) (R := fw_rm y) (s := s) (m := m) (below := below) (meth := meth) (c := c) (cells := K - K0) (slots := sl) (ls := la) (free := fw_A bb (fw_mW y)) (Qc := fw_QC y D cA bb K0 Q) hZ.1 hZ.2.1 (hZ.2.2.1.trans hT) (fw_ret (args := args) (r := none) hY hK hQ (fun w hw => by cases hw)) hY.2.2.2.2.1.2.2 hd
  rw [show K - K0 = fw_mc y by omega] at h ⊢
  subst hs
  exact h
/-! a method's contract out of the walk of its body -/
def fw_la : List fw_V → List (Option fw_V)
  | [] => []
  | .inr (.inl x) :: t => some (.inr (.inl x)) :: none :: fw_la t
  | .inl x :: t => some (.inl x) :: fw_la t
  | .inr (.inr x) :: t => some (.inr (.inr x)) :: fw_la t
theorem fw_la_args {b : Nat} : ∀ (As : List fw_V) (i : Nat), ∀ q ∈ fw_lc b i (fw_la As), q ∈ lv_args i (As.map (fw_cv b))
  | [], i, q, h => by simp [fw_la, fw_lc] at h
  | .inr (.inl x) :: t, i, q, h => by
    have h : q ∈ (i, Value.long x) :: fw_lc b (i + 1 + 1) (fw_la t) := h
    show q ∈ (i, Value.long x) :: lv_args (i + 2) (t.map (fw_cv b))
    rcases List.mem_cons.mp h with h | h
    · exact List.mem_cons.mpr (Or.inl h)
    · exact List.mem_cons_of_mem _ (fw_la_args t (i + 2) q h)
  | .inl x :: t, i, q, h => by
    have h : q ∈ (i, Value.int (Int32.ofInt x)) :: fw_lc b (i + 1) (fw_la t) := h
    show q ∈ (i, Value.int (Int32.ofInt x)) :: lv_args (i + 1) (t.map (fw_cv b))
    rcases List.mem_cons.mp h with h | h
    · exact List.mem_cons.mpr (Or.inl h)
    · exact List.mem_cons_of_mem _ (fw_la_args t (i + 1) q h)
  | .inr (.inr x) :: t, i, q, h => by
    have h : q ∈ (i, Value.ref (b + x.toNat)) :: fw_lc b (i + 1) (fw_la t) := h
    show q ∈ (i, Value.ref (b + x.toNat)) :: lv_args (i + 1) (t.map (fw_cv b))
    rcases List.mem_cons.mp h with h | h
    · exact List.mem_cons.mpr (Or.inl h)
    · exact List.mem_cons_of_mem _ (fw_la_args t (i + 1) q h)
theorem fw_la_ok : ∀ (As : List fw_V), (∀ v ∈ As, fw_okV v) → ∀ v, some v ∈ fw_la As → fw_okV v
  | [], _, v, h => by simp [fw_la] at h
  | .inr (.inl x) :: t, ho, v, h => by
    simp only [fw_la, List.mem_cons, Option.some.injEq] at h
    rcases h with h | h | h
    · subst h; exact True.intro
    · cases h
    · exact fw_la_ok t (fun v hv => ho v (List.mem_cons_of_mem _ hv)) v h
  | .inl x :: t, ho, v, h => by
    simp only [fw_la, List.mem_cons, Option.some.injEq] at h
    rcases h with h | h
    · subst h; exact ho _ List.mem_cons_self
    · exact fw_la_ok t (fun v hv => ho v (List.mem_cons_of_mem _ hv)) v h
  | .inr (.inr x) :: t, ho, v, h => by
    simp only [fw_la, List.mem_cons, Option.some.injEq] at h
    rcases h with h | h
    · subst h; exact True.intro
    · exact fw_la_ok t (fun v hv => ho v (List.mem_cons_of_mem _ hv)) v h
theorem fw_la_len {b : Nat} : ∀ (As : List fw_V), (lg_sl (As.map (fw_cv b))).length = (As.map fw_cat).sum
  | [] => rfl
  | .inr (.inl x) :: t => by
    show ([Slot.val (.long x), Slot.second] ++ lg_sl (t.map (fw_cv b))).length = _
    rw [List.length_append, fw_la_len t, List.map_cons, List.sum_cons]
    rfl
  | .inl x :: t => by
    show ([Slot.val (.int (Int32.ofInt x))] ++ lg_sl (t.map (fw_cv b))).length = _
    rw [List.length_append, fw_la_len t, List.map_cons, List.sum_cons]
    rfl
  | .inr (.inr x) :: t => by
    show ([Slot.val (.ref (b + x.toNat))] ++ lg_sl (t.map (fw_cv b))).length = _
    rw [List.length_append, fw_la_len t, List.map_cons, List.sum_cons]
    rfl
theorem fw_SP_of {y : fw_M} {As : List fw_V} {K0 : Nat} {R M : fw_F} {L : fw_G} {Q : fw_Q} {ls : List (Option fw_V)} (hy : plainName (fw_mN y).cls = true ∧ (fw_mN y).cls = fw_cn (fw_mO y)) (hl : fw_la As = ls) (hm : (As.map fw_cat).sum ≤ fw_mL y) (k : (∀ v ∈ As, fw_okV v) → (∀ k j, fw_ok (M k j)) → fw_WP y K0 0 ls [] K0 0 R M L Q) : fw_SP y As K0 R M L Q := by
  subst hl
  intro hA hM l D cA b
  refine Met.ofW (cc := fw_mC y) (maxL := fw_mL y) (ret := fw_mT y) hy.1 rfl ?_
  intro p e s m args below meth c s₁ B hml hv
  obtain ⟨rfl, hW, hK, hb1, hb2⟩ := hv
  have hts := atoms_spec (ws := fw_ws y) B.pre
  rw [lg_entry_eq]
  have hl := lv_entry (As.map (fw_cv b)) (n := fw_mL y) (by rw [fw_la_len]; exact hm)
  have hcn := findClass_of_methodNamed B.named
  rw [hy.2] at hcn
  have h := k hA hM l D cA p e s m _ below meth c b s.heap [] _ ⟨B.exec, B.bytes, B.returns, hml, hcn, fun w hw => hts w (List.mem_cons_of_mem _ hw), B.notSynchronized, (name_of_methodNamed B.named B.method).1, hK, hb1, hb2⟩ (fun v hv => by cases hv)
    ⟨fw_la_ok As hA, hM, hW, ⟨Nat.le_refl _, by omega⟩, va_S.rf, fw_has_sub hl (fw_la_args As 0)⟩
  rw [Nat.sub_self] at h
  exact h
/-! calls -/
/-- what the tables say of a method -/
def fw_mw (j : fw_M) (n : Nat) : Prop := Cond.code (fw_mN j) (fw_mC j) (fw_mL j) (fw_mT j) ∈ fw_tbl ∧ Cond.initialized (fw_mN j).cls ∈ fw_tbl ∧ ((fw_mN j).cls ≠ "java/lang/invoke/MethodHandle" ∧ (fw_mN j).cls ≠ "java/lang/invoke/VarHandle" ∧ (parseMethodDescriptor (fw_mN j).desc).map (fun d => d.parameters.length) = some n) ∧ (fw_mN j).cls = fw_cn (fw_mO j)
theorem fw_good {j : fw_M} {n : Nat} (h : fw_mw j n) : GoodIn fw_tbl (fw_ws j) := fun w hw => by
  rcases List.mem_cons.mp hw with rfl | hw
  · exact ⟨h.1, good_of_word (fw_tbl_good h.1)⟩
  · exact ⟨hw, good_of_word (fw_tbl_good hw)⟩
theorem fw_cats {b : Nat} (st : List fw_V) : ((st.map (fw_cv b)).map fun v => v.category).sum = (st.map fw_cat).sum := by
  rw [List.map_map]
  congr 1
  exact List.map_congr_left fun v _ => fw_cv_cat b v
/-- behind a call -/
theorem fw_back {y j : fw_M} {K0 pc K sl : Nat} {ls : List (Option fw_V)} {st rest : List fw_V} {R M : fw_F} {L : fw_G} {Q Qc : fw_Q} {a : Array Value}
    (hw : fw_mW j = fw_mW y) (kk : ∀ (r : Option fw_V) (R' M' : fw_F) (L' : fw_G), Qc r (K + fw_mc j) R' M' L' → (∀ v, r = some v → fw_okV v) → (∀ k j, fw_ok (M' k j)) → fw_WP y K0 (pc + 3) ls (r.toList ++ rest) (K + fw_mc j) (sl + fw_ms j) R' M' L' Q)
    {l : Launch} {D : va_G} {cA : Nat → ClassId} {p : Program} {e : Env} {s : State} {m : MethodId} {args : Array Value} {below : List Frame} {meth : Method} {c : Code} {bb : Nat} {H : Heap} {locs : List Loc} {la : Array Slot}
    (hZ : fw_Z y D cA p s m args meth c bb K0) (hO : ∀ v ∈ rest, fw_okV v) (hY : fw_Y y D cA bb K0 K R M L ls s H locs la)
    (hr : va_Run p l e (fw_rm y) s m args below meth c H locs (K - K0) sl (fw_mc j) (fw_ms j) (F0 m pc la (st.map (fw_cv bb))) (rest.map (fw_cv bb)) (fw_QC j D cA bb K Qc a) (fw_A bb (fw_mW j))) :
    W p l e (fw_rm y) s m args below meth c H locs (K - K0) sl (MQ below (fw_QC y D cA bb K0 Q) args s (fw_mc y) (fw_ms y) (fw_A bb (fw_mW y))) (F0 m pc la (st.map (fw_cv bb))) := by
  intro T hT X
  obtain ⟨v, st₀, t, T', L1, h0, X', hL, e1, e2, ⟨⟨r, K', R', M', L', hv, hq, hrok, hMok, hK', hsz, hW⟩, hF⟩, st2⟩ := hr T hT X
  have hv : v = r.map (fw_cv bb) := by injection hv
  subst hv
  subst hK'
  rw [hw] at hW hF hL
  have hk := kk r R' M' L' hq hrok hMok l D cA p e s m args below meth c bb t.heap (locs ++ L1) la hZ (fun v hv => by
      rcases List.mem_append.mp hv with h | h
      · exact hrok v (by simpa using h)
      · exact hO v h)
    ⟨hY.1, hMok, hW, ⟨by have := hY.2.2.2.1.1; omega, by rw [hsz, h0, hY.2.2.2.1.2]; have := hY.2.2.2.1.1; omega⟩, ⟨?_, ?_, ?_⟩, hY.2.2.2.2.2⟩
  · rw [show K + fw_mc j - K0 = K - K0 + fw_mc j by have := hY.2.2.2.1.1; omega] at hk
    obtain ⟨tt, a1, b1⟩ := hk T' e1 X'
    refine ⟨tt, st2 tt ?_, b1⟩
    rw [List.map_append] at a1
    have hg : (r.toList.map (fw_cv bb)) = (r.map (fw_cv bb)).toList := by cases r <;> rfl
    rw [hg] at a1
    exact a1
  · exact Nat.le_trans hY.2.2.2.2.1.1 (by rw [← h0]; exact hF.1)
  · intro q h1 h2
    rw [hF.2 q (by rw [h0]; exact Nat.lt_of_lt_of_le h1 hY.2.2.2.2.1.1) h2, h0]
    exact hY.2.2.2.2.1.2.1 q h1 h2
  · intro q hq'
    rcases List.mem_append.mp hq' with h | h
    · exact hY.2.2.2.2.1.2.2 q h
    · exact hL q h
theorem fw_pre {y j : fw_M} {K0 K : Nat} {ls : List (Option fw_V)} {R M : fw_F} {L : fw_G} {As : List fw_V}
    (hw : fw_mW j = fw_mW y) (hz : 0 < fw_mc j → 0 < fw_mc y)
    {D : va_G} {cA : Nat → ClassId} {p : Program} {s : State} {m : MethodId} {args : Array Value} {meth : Method} {c : Code} {bb : Nat} {H : Heap} {locs : List Loc} {la : Array Slot}
    (hZ : fw_Z y D cA p s m args meth c bb K0) (hY : fw_Y y D cA bb K0 K R M L ls s H locs la) : PreS s H (fw_PC j D cA bb K R M L As) (As.map (fw_cv bb)) := by
  refine ⟨fw_blind, fun U hU hWm => ⟨rfl, by rw [hU, hw]; exact hY.2.2.1, hZ.2.2.2.2.2.2.2.2.1.moved hWm, ?_, fun h => ?_⟩⟩
  · rw [hU, hY.2.2.2.1.2]
    have h1 := hZ.2.2.2.2.2.2.2.2.2.1
    have := hY.2.2.2.1.1
    omega
  · rw [hU, hY.2.2.2.1.2]
    have h1 := hZ.2.2.2.2.2.2.2.2.2.2 (hz h)
    have := hY.2.2.2.1.1
    omega
theorem fw_callV {y : fw_M} {K0 pc K sl : Nat} {ls : List (Option fw_V)} {st rest : List fw_V} {R M : fw_F} {L : fw_G} {Q Qc : fw_Q} {idx n : Nat} {k : Int} (j : fw_M) (As : List fw_V) (hd : decode (fw_mC y) pc = .ok (.invokevirtual idx, 3)) (hj : fw_mw j n) (hj2 : Cond.instanceMethod (fw_mN j) ∈ fw_tbl ∧ Cond.selects (fw_cn (fw_mO j)) (fw_mN j) (fw_mN j) ∈ fw_tbl)
    (hlk : Cond.methodLink (fw_cn (fw_mO y)) idx (fw_mN j) ∈ fw_tbl) (hrm : fw_mF j + 1 ≤ fw_mF y ∧ 8 + (fw_mL j + 11) + fw_mX j ≤ fw_mX y) (hw : fw_mW j = fw_mW y) (hz : 0 < fw_mc j → 0 < fw_mc y) (hlay : fw_lay (fw_mW y) k = (fw_mO j, (fw_lay (fw_mW y) k).2) ∧ fw_mO j < 10) (hcl : ∃ T N ty, fw_cls (fw_mO j) (fw_cn (fw_mO j)) T N ty) (hk : 0 ≤ k ∧ k < K)
    (hst : st = As.reverse ++ fw_r k :: rest) (hn : As.length = n) (hcat : (rest.map fw_cat).sum ≤ 8) (hroom : K - K0 + fw_mc j ≤ fw_mc y ∧ sl + fw_ms j ≤ fw_ms y) (hS : fw_SP j (fw_r k :: As) K R M L Qc)
    (kk : ∀ (r : Option fw_V) (R' M' : fw_F) (L' : fw_G), Qc r (K + fw_mc j) R' M' L' → (∀ v, r = some v → fw_okV v) → (∀ k j, fw_ok (M' k j)) → fw_WP y K0 (pc + 3) ls (r.toList ++ rest) (K + fw_mc j) (sl + fw_ms j) R' M' L' Q) : fw_WP y K0 pc ls st K sl R M L Q := by
  subst hst
  intro l D cA p e s m args below meth c bb H locs la hZ hO hY
  have hO1 : ∀ v ∈ rest, fw_okV v := fun v hv => hO v (List.mem_append_right _ (List.mem_cons_of_mem _ hv))
  have hO2 : ∀ v ∈ fw_r k :: As, fw_okV v := fun v hv => by
    rcases List.mem_cons.mp hv with rfl | hv
    · exact fw_okr
    · exact hO v (List.mem_append_left _ (List.mem_reverse.mpr hv))
  have hM := hS hO2 hY.2.1 l D cA bb
  obtain ⟨hkn, hke⟩ := fw_nat hk
  obtain ⟨T, N, ty, hcl⟩ := hcl
  have hcell := (hY.2.2.1 k.toNat hkn).1
  rw [hke, hlay.1] at hcell
  obtain ⟨cell, q1, q2, q3, q4⟩ := hcell hlay.2
  have hKn := hZ.2.2.2.2.2.2.2.2.1.1.1 (fw_mO j) _ hcl.1
  have hp := fw_pre (As := fw_r k :: As) hw hz hZ hY
  have ht := hZ.2.2.2.2.2.1
  refine fw_back (rest := rest) hw kk hZ hO1 hY (va_runV (rest := rest.map (fw_cv bb)) (As := As.map (fw_cv bb)) (b := bb + k.toNat) (C := fw_cn (fw_mO j)) (index := idx) (n := n) (bytes := fw_mC j) (maxL := fw_mL j) (ret := fw_mT j) (nL := fw_mL y) (cc := fw_mC y) (Ts := fw_tbl) (own := fw_cn (fw_mO y)) ⟨hZ.1, hZ.2.1, hZ.2.2.2.1, hZ.2.2.2.2.1, ht⟩ hM ⟨callB_of n ht (fw_good hj) rfl rfl rfl (ht _ hj.2.1) (ht _ hlk) hj.2.2.1 hrm, ht _ hj2.1, ht _ hj2.2⟩ ⟨hp.1, ⟨cell, q1, by rw [q3]; rfl, by rw [q2]; exact hKn.2.1⟩, hp.2⟩ rfl (by simpa using hn) hY.2.2.2.2.2.1 ?_ (lv_room (by rw [fw_cats]; exact hcat)) hd hroom)
  show (As.reverse ++ fw_r k :: rest).map (fw_cv bb) = (As.map (fw_cv bb)).reverse ++ .ref (bb + k.toNat) :: rest.map (fw_cv bb)
  simp [fw_cv]
theorem fw_callS {y : fw_M} {K0 pc K sl : Nat} {ls : List (Option fw_V)} {st rest : List fw_V} {R M : fw_F} {L : fw_G} {Q Qc : fw_Q} {idx n : Nat} (j : fw_M) (As : List fw_V) (hd : decode (fw_mC y) pc = .ok (.invokestatic idx, 3)) (hj : fw_mw j n) (hj2 : Cond.static (fw_mN j) ∈ fw_tbl)
    (hlk : Cond.methodLink (fw_cn (fw_mO y)) idx (fw_mN j) ∈ fw_tbl) (hrm : fw_mF j + 1 ≤ fw_mF y ∧ 8 + (fw_mL j + 11) + fw_mX j ≤ fw_mX y) (hw : fw_mW j = fw_mW y) (hz : 0 < fw_mc j → 0 < fw_mc y)
    (hst : st = As.reverse ++ rest) (hn : As.length = n) (hcat : (rest.map fw_cat).sum ≤ 8) (hroom : K - K0 + fw_mc j ≤ fw_mc y ∧ sl + fw_ms j ≤ fw_ms y) (hS : fw_SP j As K R M L Qc)
    (kk : ∀ (r : Option fw_V) (R' M' : fw_F) (L' : fw_G), Qc r (K + fw_mc j) R' M' L' → (∀ v, r = some v → fw_okV v) → (∀ k j, fw_ok (M' k j)) → fw_WP y K0 (pc + 3) ls (r.toList ++ rest) (K + fw_mc j) (sl + fw_ms j) R' M' L' Q) : fw_WP y K0 pc ls st K sl R M L Q := by
  subst hst
  intro l D cA p e s m args below meth c bb H locs la hZ hO hY
  have hO1 : ∀ v ∈ rest, fw_okV v := fun v hv => hO v (List.mem_append_right _ hv)
  have hO2 : ∀ v ∈ As, fw_okV v := fun v hv => hO v (List.mem_append_left _ (List.mem_reverse.mpr hv))
  have hM := hS hO2 hY.2.1 l D cA bb
  have hp := fw_pre (As := As) hw hz hZ hY
  have ht := hZ.2.2.2.2.2.1
  refine fw_back (rest := rest) hw kk hZ hO1 hY (va_runS (rest := rest.map (fw_cv bb)) (As := As.map (fw_cv bb)) (index := idx) (n := n) (bytes := fw_mC j) (maxL := fw_mL j) (ret := fw_mT j) (nL := fw_mL y) (cc := fw_mC y) (Ts := fw_tbl) (own := fw_cn (fw_mO y)) ⟨hZ.1, hZ.2.1, hZ.2.2.2.1, hZ.2.2.2.2.1, ht⟩ hM ⟨callB_of n ht (fw_good hj) rfl rfl rfl (ht _ hj.2.1) (ht _ hlk) hj.2.2.1 hrm, ht _ hj2⟩ hp rfl (by simpa using hn) hY.2.2.2.2.2.1 ?_ (lv_room (by rw [fw_cats]; exact hcat)) hd hroom)
  show (As.reverse ++ rest).map (fw_cv bb) = (As.map (fw_cv bb)).reverse ++ rest.map (fw_cv bb)
  simp
theorem fw_callSN {y : fw_M} {K0 pc K sl : Nat} {ls : List (Option fw_V)} {st rest : List fw_V} {R M : fw_F} {L : fw_G} {Q Qc : fw_Q} {idx n : Nat} (j : fw_M) (As : List fw_V) (hd : decode (fw_mC y) pc = .ok (.invokestatic idx, 3)) (hj : fw_mw j n) (hj2 : Cond.static (fw_mN j) ∈ fw_tbl)
    (hlk : ∀ s, fw_nest s → va_Nw (.methodLinkNest (fw_cn (fw_mO y)) idx (fw_mN j) "FolderRows") s) (hrm : fw_mF j + 1 ≤ fw_mF y ∧ 8 + (fw_mL j + 11) + fw_mX j ≤ fw_mX y) (hw : fw_mW j = fw_mW y) (hz : 0 < fw_mc j → 0 < fw_mc y)
    (hst : st = As.reverse ++ rest) (hn : As.length = n) (hcat : (rest.map fw_cat).sum ≤ 8) (hroom : K - K0 + fw_mc j ≤ fw_mc y ∧ sl + fw_ms j ≤ fw_ms y) (hS : fw_SP j As K R M L Qc)
    (kk : ∀ (r : Option fw_V) (R' M' : fw_F) (L' : fw_G), Qc r (K + fw_mc j) R' M' L' → (∀ v, r = some v → fw_okV v) → (∀ k j, fw_ok (M' k j)) → fw_WP y K0 (pc + 3) ls (r.toList ++ rest) (K + fw_mc j) (sl + fw_ms j) R' M' L' Q) : fw_WP y K0 pc ls st K sl R M L Q := by
  subst hst
  intro l D cA p e s m args below meth c bb H locs la hZ hO hY
  have hO1 : ∀ v ∈ rest, fw_okV v := fun v hv => hO v (List.mem_append_right _ hv)
  have hO2 : ∀ v ∈ As, fw_okV v := fun v hv => hO v (List.mem_append_left _ (List.mem_reverse.mpr hv))
  have hM := hS hO2 hY.2.1 l D cA bb
  have hp := fw_pre (As := As) hw hz hZ hY
  have ht := hZ.2.2.2.2.2.1
  refine fw_back (rest := rest) hw kk hZ hO1 hY (va_runSN (rest := rest.map (fw_cv bb)) (As := As.map (fw_cv bb)) (index := idx) (n := n) (bytes := fw_mC j) (maxL := fw_mL j) (ret := fw_mT j) (nL := fw_mL y) (cc := fw_mC y) (Ts := fw_tbl) (own := fw_cn (fw_mO y)) (host := "FolderRows") ⟨hZ.1, hZ.2.1, hZ.2.2.2.1, hZ.2.2.2.2.1, ht⟩ hM ⟨va_cnB n ht (fw_good hj) rfl rfl rfl (hlk s hZ.2.2.2.2.2.2.2.2.1.2) (ht _ hj.2.1) hj.2.2.1 hrm, ht _ hj2, True.intro⟩ hp rfl (by simpa using hn) hY.2.2.2.2.2.1 ?_ (lv_room (by rw [fw_cats]; exact hcat)) hd hroom)
  show (As.reverse ++ rest).map (fw_cv bb) = (As.map (fw_cv bb)).reverse ++ rest.map (fw_cv bb)
  simp
theorem fw_callI {y : fw_M} {K0 pc K sl : Nat} {ls : List (Option fw_V)} {st rest : List fw_V} {R M : fw_F} {L : fw_G} {Q Qc : fw_Q} {idx n : Nat} {k : Int} (j : fw_M) (As : List fw_V) (hd : decode (fw_mC y) pc = .ok (.invokespecial idx, 3)) (hj : fw_mw j n) (hj2 : (fw_mN j).name = "<init>" ∧ fw_mT j = none ∧ Cond.instanceMethod (fw_mN j) ∈ fw_tbl)
    (hlk : Cond.methodLink (fw_cn (fw_mO y)) idx (fw_mN j) ∈ fw_tbl) (hrm : fw_mF j + 1 ≤ fw_mF y ∧ 8 + (fw_mL j + 11) + fw_mX j ≤ fw_mX y) (hw : fw_mW j = fw_mW y) (hz : 0 < fw_mc j → 0 < fw_mc y)
    (hst : st = As.reverse ++ fw_r k :: rest) (hn : As.length = n) (hcat : (rest.map fw_cat).sum ≤ 8) (hroom : K - K0 + fw_mc j ≤ fw_mc y ∧ sl + fw_ms j ≤ fw_ms y) (hS : fw_SP j (fw_r k :: As) K R M L Qc)
    (kk : ∀ (r : Option fw_V) (R' M' : fw_F) (L' : fw_G), Qc r (K + fw_mc j) R' M' L' → (∀ v, r = some v → fw_okV v) → (∀ k j, fw_ok (M' k j)) → fw_WP y K0 (pc + 3) ls (r.toList ++ rest) (K + fw_mc j) (sl + fw_ms j) R' M' L' Q) : fw_WP y K0 pc ls st K sl R M L Q := by
  subst hst
  intro l D cA p e s m args below meth c bb H locs la hZ hO hY
  have hO1 : ∀ v ∈ rest, fw_okV v := fun v hv => hO v (List.mem_append_right _ (List.mem_cons_of_mem _ hv))
  have hO2 : ∀ v ∈ fw_r k :: As, fw_okV v := fun v hv => by
    rcases List.mem_cons.mp hv with rfl | hv
    · exact fw_okr
    · exact hO v (List.mem_append_left _ (List.mem_reverse.mpr hv))
  have hM := hS hO2 hY.2.1 l D cA bb
  have hp := fw_pre (As := fw_r k :: As) hw hz hZ hY
  have ht := hZ.2.2.2.2.2.1
  refine fw_back (rest := rest) hw kk hZ hO1 hY (va_runI (rest := rest.map (fw_cv bb)) (As := As.map (fw_cv bb)) (b := bb + k.toNat) (index := idx) (n := n) (bytes := fw_mC j) (maxL := fw_mL j) (nL := fw_mL y) (cc := fw_mC y) (Ts := fw_tbl) (own := fw_cn (fw_mO y)) ⟨hZ.1, hZ.2.1, hZ.2.2.2.1, hZ.2.2.2.2.1, ht⟩ hM ⟨callB_of (ws' := fw_tbl) n ht (fw_good hj) (by unfold fw_ws; rw [hj2.2.1]) rfl rfl (ht _ hj.2.1) (ht _ hlk) hj.2.2.1 hrm, hj2.1, ht _ hj2.2.2⟩ hp rfl (by simpa using hn) hY.2.2.2.2.2.1 ?_ (lv_room (by rw [fw_cats]; exact hcat)) hd hroom)
  show (As.reverse ++ fw_r k :: rest).map (fw_cv bb) = (As.map (fw_cv bb)).reverse ++ .ref (bb + k.toNat) :: rest.map (fw_cv bb)
  simp [fw_cv]
theorem fw_callIN {y : fw_M} {K0 pc K sl : Nat} {ls : List (Option fw_V)} {st rest : List fw_V} {R M : fw_F} {L : fw_G} {Q Qc : fw_Q} {idx n : Nat} {k : Int} (j : fw_M) (As : List fw_V) (hd : decode (fw_mC y) pc = .ok (.invokespecial idx, 3)) (hj : fw_mw j n) (hj2 : (fw_mN j).name = "<init>" ∧ fw_mT j = none ∧ Cond.instanceMethod (fw_mN j) ∈ fw_tbl)
    (hlk : ∀ s, fw_nest s → va_Nw (.methodLinkNest (fw_cn (fw_mO y)) idx (fw_mN j) "FolderRows") s) (hrm : fw_mF j + 1 ≤ fw_mF y ∧ 8 + (fw_mL j + 11) + fw_mX j ≤ fw_mX y) (hw : fw_mW j = fw_mW y) (hz : 0 < fw_mc j → 0 < fw_mc y)
    (hst : st = As.reverse ++ fw_r k :: rest) (hn : As.length = n) (hcat : (rest.map fw_cat).sum ≤ 8) (hroom : K - K0 + fw_mc j ≤ fw_mc y ∧ sl + fw_ms j ≤ fw_ms y) (hS : fw_SP j (fw_r k :: As) K R M L Qc)
    (kk : ∀ (r : Option fw_V) (R' M' : fw_F) (L' : fw_G), Qc r (K + fw_mc j) R' M' L' → (∀ v, r = some v → fw_okV v) → (∀ k j, fw_ok (M' k j)) → fw_WP y K0 (pc + 3) ls (r.toList ++ rest) (K + fw_mc j) (sl + fw_ms j) R' M' L' Q) : fw_WP y K0 pc ls st K sl R M L Q := by
  subst hst
  intro l D cA p e s m args below meth c bb H locs la hZ hO hY
  have hO1 : ∀ v ∈ rest, fw_okV v := fun v hv => hO v (List.mem_append_right _ (List.mem_cons_of_mem _ hv))
  have hO2 : ∀ v ∈ fw_r k :: As, fw_okV v := fun v hv => by
    rcases List.mem_cons.mp hv with rfl | hv
    · exact fw_okr
    · exact hO v (List.mem_append_left _ (List.mem_reverse.mpr hv))
  have hM := hS hO2 hY.2.1 l D cA bb
  have hp := fw_pre (As := fw_r k :: As) hw hz hZ hY
  have ht := hZ.2.2.2.2.2.1
  refine fw_back (rest := rest) hw kk hZ hO1 hY (va_runIN (rest := rest.map (fw_cv bb)) (As := As.map (fw_cv bb)) (b := bb + k.toNat) (index := idx) (n := n) (bytes := fw_mC j) (maxL := fw_mL j) (nL := fw_mL y) (cc := fw_mC y) (Ts := fw_tbl) (own := fw_cn (fw_mO y)) (host := "FolderRows") ⟨hZ.1, hZ.2.1, hZ.2.2.2.1, hZ.2.2.2.2.1, ht⟩ hM ⟨va_cnB (ws' := fw_tbl) n ht (fw_good hj) (by unfold fw_ws; rw [hj2.2.1]) rfl rfl (hlk s hZ.2.2.2.2.2.2.2.2.1.2) (ht _ hj.2.1) hj.2.2.1 hrm, hj2.1, ht _ hj2.2.2⟩ hp rfl (by simpa using hn) hY.2.2.2.2.2.1 ?_ (lv_room (by rw [fw_cats]; exact hcat)) hd hroom)
  show (As.reverse ++ fw_r k :: rest).map (fw_cv bb) = (As.map (fw_cv bb)).reverse ++ .ref (bb + k.toNat) :: rest.map (fw_cv bb)
  simp [fw_cv]
end
section
/-! static worlds: the cells are all made, references stand -/
def fw_RC (k j : Int) : Int :=
  if k = 0 then (match j.toNat with
    | 0 => 1
    | 1 => 168
    | 2 => 178
    | 3 => 191
    | 4 => 194
    | 5 => 197
    | 6 => 198
    | _ => -1)
  else if k = 1 then 2 + j
  else if k = 2 then 8 + 2 * j
  else if k < 168 then k + 1
  else if k = 168 then (if j = 0 then 1 else 168 + j)
  else if k = 178 then 179 + 3 * j
  else if k = 198 then 199 + j
  else k + 1 + j
def fw_RD (_k j : Int) : Int := if j < 28 then j - 4 else if j < 31 then j - 5 else j - 6
def fw_q (post : Option fw_V → fw_F → fw_G → Prop) (K : Nat) (R : fw_F) : fw_Q := fun r K' R' M' L' => K' = K ∧ R' = R ∧ post r M' L'
abbrev fw_P : Type := Option fw_V → fw_F → fw_G → Prop
abbrev fw_C (y : fw_M) (pc : Nat) (ls : List (Option fw_V)) (st : List fw_V) (M : fw_F) (L : fw_G) (post : fw_P) : Prop := fw_WP y 203 pc ls st 203 0 fw_RC M L (fw_q post 203 fw_RC)
abbrev fw_D (y : fw_M) (pc : Nat) (ls : List (Option fw_V)) (st : List fw_V) (M : fw_F) (L : fw_G) (post : fw_P) : Prop := fw_WP y 30 pc ls st 30 0 fw_RD M L (fw_q post 30 fw_RD)
abbrev fw_SC (y : fw_M) (As : List fw_V) (M : fw_F) (L : fw_G) (post : fw_P) : Prop := fw_SP y As 203 fw_RC M L (fw_q post 203 fw_RC)
abbrev fw_SD (y : fw_M) (As : List fw_V) (M : fw_F) (L : fw_G) (post : fw_P) : Prop := fw_SP y As 30 fw_RD M L (fw_q post 30 fw_RD)
/-- what is needed of an instance method, of a static one -/
def fw_mv (j : fw_M) (n : Nat) : Prop := fw_mw j n ∧ (Cond.instanceMethod (fw_mN j) ∈ fw_tbl ∧ Cond.selects (fw_cn (fw_mO j)) (fw_mN j) (fw_mN j) ∈ fw_tbl) ∧ (∃ T N ty, fw_cls (fw_mO j) (fw_cn (fw_mO j)) T N ty) ∧ fw_mO j < 10
def fw_mt (j : fw_M) (n : Nat) : Prop := fw_mw j n ∧ Cond.static (fw_mN j) ∈ fw_tbl
theorem fw_cV {y : fw_M} {K0 pc K sl : Nat} {ls : List (Option fw_V)} {st rest : List fw_V} {R M : fw_F} {L : fw_G} {Q : fw_Q} {post : fw_P} {idx n N : Nat} {k : Int} (j : fw_M) (As : List fw_V) (hd : decode (fw_mC y) pc = .ok (.invokevirtual idx, 3)) (hv : fw_mv j n)
    (hlk : Cond.methodLink (fw_cn (fw_mO y)) idx (fw_mN j) ∈ fw_tbl) (hrm : (fw_mF j + 1 ≤ fw_mF y ∧ 8 + (fw_mL j + 11) + fw_mX j ≤ fw_mX y) ∧ fw_mW j = fw_mW y ∧ fw_mc j = 0 ∧ fw_ms j = 0 ∧ K - K0 ≤ fw_mc y ∧ sl ≤ fw_ms y) (hlay : fw_lay (fw_mW y) k = (fw_mO j, N)) (hk : 0 ≤ k ∧ k < K)
    (hst : st = As.reverse ++ fw_r k :: rest) (hn : As.length = n) (hcat : (rest.map fw_cat).sum ≤ 8) (hS : fw_SP j (fw_r k :: As) K R M L (fw_q post K R))
    (kk : ∀ (r : Option fw_V) (M' : fw_F) (L' : fw_G), post r M' L' → (∀ k j, fw_ok (M' k j)) → fw_WP y K0 (pc + 3) ls (r.toList ++ rest) K sl R M' L' Q) : fw_WP y K0 pc ls st K sl R M L Q := by
  obtain ⟨h1, h2, h3, h4, h5, h6⟩ := hrm
  refine fw_callV j As hd hv.1 hv.2.1 hlk h1 h2 (fun h => by omega) ⟨by rw [hlay], hv.2.2.2⟩ hv.2.2.1 hk hst hn hcat ⟨by omega, by omega⟩ hS fun r R' M' L' hq _ hM => ?_
  obtain ⟨-, rfl, hp⟩ := hq
  rw [h3, h4]
  exact kk r M' L' hp hM
theorem fw_cS {y : fw_M} {K0 pc K sl : Nat} {ls : List (Option fw_V)} {st rest : List fw_V} {R M : fw_F} {L : fw_G} {Q : fw_Q} {post : fw_P} {idx n : Nat} (j : fw_M) (As : List fw_V) (hd : decode (fw_mC y) pc = .ok (.invokestatic idx, 3)) (hv : fw_mt j n)
    (hlk : Cond.methodLink (fw_cn (fw_mO y)) idx (fw_mN j) ∈ fw_tbl) (hrm : (fw_mF j + 1 ≤ fw_mF y ∧ 8 + (fw_mL j + 11) + fw_mX j ≤ fw_mX y) ∧ fw_mW j = fw_mW y ∧ fw_mc j = 0 ∧ fw_ms j = 0 ∧ K - K0 ≤ fw_mc y ∧ sl ≤ fw_ms y)
    (hst : st = As.reverse ++ rest) (hn : As.length = n) (hcat : (rest.map fw_cat).sum ≤ 8) (hS : fw_SP j As K R M L (fw_q post K R))
    (kk : ∀ (r : Option fw_V) (M' : fw_F) (L' : fw_G), post r M' L' → (∀ k j, fw_ok (M' k j)) → fw_WP y K0 (pc + 3) ls (r.toList ++ rest) K sl R M' L' Q) : fw_WP y K0 pc ls st K sl R M L Q := by
  obtain ⟨h1, h2, h3, h4, h5, h6⟩ := hrm
  refine fw_callS j As hd hv.1 hv.2 hlk h1 h2 (fun h => by omega) hst hn hcat ⟨by omega, by omega⟩ hS fun r R' M' L' hq _ hM => ?_
  obtain ⟨-, rfl, hp⟩ := hq
  rw [h3, h4]
  exact kk r M' L' hp hM
theorem fw_cN {y : fw_M} {K0 pc K sl : Nat} {ls : List (Option fw_V)} {st rest : List fw_V} {R M : fw_F} {L : fw_G} {Q : fw_Q} {post : fw_P} {idx n : Nat} (j : fw_M) (As : List fw_V) (hd : decode (fw_mC y) pc = .ok (.invokestatic idx, 3)) (hv : fw_mt j n)
    (hlk : ∀ s, fw_nest s → va_Nw (.methodLinkNest (fw_cn (fw_mO y)) idx (fw_mN j) "FolderRows") s) (hrm : (fw_mF j + 1 ≤ fw_mF y ∧ 8 + (fw_mL j + 11) + fw_mX j ≤ fw_mX y) ∧ fw_mW j = fw_mW y ∧ fw_mc j = 0 ∧ fw_ms j = 0 ∧ K - K0 ≤ fw_mc y ∧ sl ≤ fw_ms y)
    (hst : st = As.reverse ++ rest) (hn : As.length = n) (hcat : (rest.map fw_cat).sum ≤ 8) (hS : fw_SP j As K R M L (fw_q post K R))
    (kk : ∀ (r : Option fw_V) (M' : fw_F) (L' : fw_G), post r M' L' → (∀ k j, fw_ok (M' k j)) → fw_WP y K0 (pc + 3) ls (r.toList ++ rest) K sl R M' L' Q) : fw_WP y K0 pc ls st K sl R M L Q := by
  obtain ⟨h1, h2, h3, h4, h5, h6⟩ := hrm
  refine fw_callSN j As hd hv.1 hv.2 hlk h1 h2 (fun h => by omega) hst hn hcat ⟨by omega, by omega⟩ hS fun r R' M' L' hq _ hM => ?_
  obtain ⟨-, rfl, hp⟩ := hq
  rw [h3, h4]
  exact kk r M' L' hp hM
/-- a contract's end may be weakened -/
theorem fw_SP_mono {y : fw_M} {As : List fw_V} {K0 : Nat} {R M : fw_F} {L : fw_G} {p1 p2 : fw_P} (h : fw_SP y As K0 R M L (fw_q p1 K0 R)) (hp : ∀ r M' L', (∀ k j, fw_ok (M' k j)) → p1 r M' L' → p2 r M' L') : fw_SP y As K0 R M L (fw_q p2 K0 R) := by
  intro hA hM l D cA b
  have h1 := h hA hM l D cA b
  refine MetFree.mono h1 (fun _ _ h => h) (fun _ _ _ _ _ h => h) (fun a st o t _ hq => ?_)
  obtain ⟨⟨⟨r, K', R', M', L', e1, ⟨e2, e3, e4⟩, e5, e6, e7⟩, hF⟩, hL⟩ := hq
  exact ⟨⟨⟨r, K', R', M', L', e1, ⟨e2, e3, hp r M' L' e6 e4⟩, e5, e6, e7⟩, hF⟩, hL⟩
/-! Math -/
theorem fw_max {y : fw_M} {K0 pc K sl : Nat} {ls : List (Option fw_V)} {st : List fw_V} {R M : fw_F} {L : fw_G} {Q : fw_Q} {idx : Nat} {a b : Int} (hd : decode (fw_mC y) pc = .ok (.invokestatic idx, 3)) (hlk : Cond.methodLink (fw_cn (fw_mO y)) idx Lib.Math.max.name ∈ fw_tbl) (hw : Cond.static Lib.Math.max.name ∈ fw_tbl ∧ Cond.initialized "java/lang/Math" ∈ fw_tbl ∧ Cond.code Lib.Math.max.name Lib.Math.max.code 2 (some .int) ∈ fw_tbl)
    (hrm : 1 ≤ fw_mF y ∧ (st.map fw_cat).sum + 13 ≤ fw_mX y ∧ K - K0 ≤ fw_mc y ∧ sl ≤ fw_ms y) (k : fw_WP y K0 (pc + 3) ls (fw_i (max a b) :: st) K sl R M L Q) : fw_WP y K0 pc ls (fw_i b :: fw_i a :: st) K sl R M L Q := by
  intro l D cA p e s m args below meth c bb H locs la hZ hO hY
  have hb : fw_ok b := fw_oh hO
  have ha : fw_ok a := fw_oh (fw_ot hO)
  have ht := hZ.2.2.2.2.2.1
  have hm : fw_ok (max a b) := by
    rcases Int.le_total a b with h | h
    · rw [Int.max_eq_right h]; exact hb
    · rw [Int.max_eq_left h]; exact ha
  have hk := k l D cA p e s m args below meth c bb H locs la hZ (fw_oc hm (fw_ot (fw_ot hO))) hY
  refine va_mmax hZ.1 hZ.2.1 (hZ.2.2.2.1.trans hY.2.2.2.2.2.1.symm) hZ.2.2.2.2.1 (ht _ hlk) (ht _ hw.1) (ht _ hw.2.1) (ht _ hw.2.2) hrm.1 (by rw [fw_cats]; exact hrm.2.1) hrm.2.2.1 hrm.2.2.2 hd ?_
  have e1 : (if Int32.ofInt a < Int32.ofInt b then Int32.ofInt b else Int32.ofInt a) = Int32.ofInt (max a b) := by
    by_cases h : a < b
    · rw [if_pos ((fw_lt ha hb).mpr h), Int.max_eq_right (by omega)]
    · rw [if_neg (fun q => h ((fw_lt ha hb).mp q)), Int.max_eq_left (by omega)]
  rw [e1]
  exact hk
theorem fw_min {y : fw_M} {K0 pc K sl : Nat} {ls : List (Option fw_V)} {st : List fw_V} {R M : fw_F} {L : fw_G} {Q : fw_Q} {idx : Nat} {a b : Int} (hd : decode (fw_mC y) pc = .ok (.invokestatic idx, 3)) (hlk : Cond.methodLink (fw_cn (fw_mO y)) idx Lib.Math.min.name ∈ fw_tbl) (hw : Cond.static Lib.Math.min.name ∈ fw_tbl ∧ Cond.initialized "java/lang/Math" ∈ fw_tbl ∧ Cond.code Lib.Math.min.name Lib.Math.min.code 2 (some .int) ∈ fw_tbl)
    (hrm : 1 ≤ fw_mF y ∧ (st.map fw_cat).sum + 13 ≤ fw_mX y ∧ K - K0 ≤ fw_mc y ∧ sl ≤ fw_ms y) (k : fw_WP y K0 (pc + 3) ls (fw_i (min a b) :: st) K sl R M L Q) : fw_WP y K0 pc ls (fw_i b :: fw_i a :: st) K sl R M L Q := by
  intro l D cA p e s m args below meth c bb H locs la hZ hO hY
  have hb : fw_ok b := fw_oh hO
  have ha : fw_ok a := fw_oh (fw_ot hO)
  have ht := hZ.2.2.2.2.2.1
  have hm : fw_ok (min a b) := by
    rcases Int.le_total a b with h | h
    · rw [Int.min_eq_left h]; exact ha
    · rw [Int.min_eq_right h]; exact hb
  have hk := k l D cA p e s m args below meth c bb H locs la hZ (fw_oc hm (fw_ot (fw_ot hO))) hY
  refine va_mmin hZ.1 hZ.2.1 (hZ.2.2.2.1.trans hY.2.2.2.2.2.1.symm) hZ.2.2.2.2.1 (ht _ hlk) (ht _ hw.1) (ht _ hw.2.1) (ht _ hw.2.2) hrm.1 (by rw [fw_cats]; exact hrm.2.1) hrm.2.2.1 hrm.2.2.2 hd ?_
  have e1 : (if Int32.ofInt b < Int32.ofInt a then Int32.ofInt b else Int32.ofInt a) = Int32.ofInt (min a b) := by
    by_cases h : b < a
    · rw [if_pos ((fw_lt hb ha).mpr h), Int.min_eq_right (by omega)]
    · rw [if_neg (fun q => h ((fw_lt hb ha).mp q)), Int.min_eq_left (by omega)]
  rw [e1]
  exact hk
theorem fw_abs {y : fw_M} {K0 pc K sl : Nat} {ls : List (Option fw_V)} {st : List fw_V} {R M : fw_F} {L : fw_G} {Q : fw_Q} {idx : Nat} {a : Int} (hd : decode (fw_mC y) pc = .ok (.invokestatic idx, 3)) (hlk : Cond.methodLink (fw_cn (fw_mO y)) idx Lib.Math.abs.name ∈ fw_tbl) (hw : Cond.static Lib.Math.abs.name ∈ fw_tbl ∧ Cond.initialized "java/lang/Math" ∈ fw_tbl ∧ Cond.code Lib.Math.abs.name Lib.Math.abs.code 1 (some .int) ∈ fw_tbl)
    (hrm : 1 ≤ fw_mF y ∧ (st.map fw_cat).sum + 13 ≤ fw_mX y ∧ K - K0 ≤ fw_mc y ∧ sl ≤ fw_ms y) (hr : -2147483648 < a) (k : fw_WP y K0 (pc + 3) ls (fw_i (if 0 ≤ a then a else -a) :: st) K sl R M L Q) : fw_WP y K0 pc ls (fw_i a :: st) K sl R M L Q := by
  intro l D cA p e s m args below meth c bb H locs la hZ hO hY
  have ha : fw_ok a := fw_oh hO
  have ht := hZ.2.2.2.2.2.1
  have hm : fw_ok (if 0 ≤ a then a else -a) := by
    split
    · exact ha
    · exact ⟨by have := ha.1; omega, by omega⟩
  have hk := k l D cA p e s m args below meth c bb H locs la hZ (fw_oc hm (fw_ot hO)) hY
  refine va_mabs hZ.1 hZ.2.1 (hZ.2.2.2.1.trans hY.2.2.2.2.2.1.symm) hZ.2.2.2.2.1 (ht _ hlk) (ht _ hw.1) (ht _ hw.2.1) (ht _ hw.2.2) hrm.1 (by rw [fw_cats]; exact hrm.2.1) hrm.2.2.1 hrm.2.2.2 hd ?_
  have e1 : (if 0 ≤ Int32.ofInt a then Int32.ofInt a else 0 - Int32.ofInt a) = Int32.ofInt (if 0 ≤ a then a else -a) := by
    rw [fw_zero]
    by_cases h : 0 ≤ a
    · rw [if_pos ((fw_le fw_ok0 ha).mpr h), if_pos h]
    · rw [if_neg (fun q => h ((fw_le fw_ok0 ha).mp q)), if_neg h, ← Int32.ofInt_sub]
      congr 1
      omega
  rw [e1]
  exact hk
end
section
theorem fw_mem {w : Cond} (i : Nat) (h : lw_tbl[i]? = some w) (g : goodWord w = true) : w ∈ fw_tbl := fw_tbl_of (List.mem_of_getElem? h) g
theorem fw_cls0 : fw_cls 0 RX0 TX0 12 tyX0 := ⟨rfl, by decide +kernel, tyX0_ok, nmX0⟩
theorem fw_cls1 : fw_cls 1 RX1 TX1 8 tyX1 := ⟨rfl, by decide +kernel, tyX1_ok, nmX1⟩
theorem fw_cls2 : fw_cls 2 RX2 TX2 4 tyX2 := ⟨rfl, by decide +kernel, tyX2_ok, nmX2⟩
theorem fw_cls3 : fw_cls 3 RX3 TX3 5 tyX3 := ⟨rfl, by decide +kernel, tyX3_ok, nmX3⟩
theorem fw_cls4 : fw_cls 4 RX4 TX4 10 tyX4 := ⟨rfl, by decide +kernel, tyX4_ok, nmX4⟩
theorem fw_cls5 : fw_cls 5 RX5 TX5 10 tyX5 := ⟨rfl, by decide +kernel, tyX5_ok, nmX5⟩
theorem fw_cls6 : fw_cls 6 RX6 TX6 36 tyX6 := ⟨rfl, by decide +kernel, tyX6_ok, nmX6⟩
theorem ly0_0 : fw_lay 0 0 = (5, 10) := by decide
theorem ly0_1 : fw_lay 0 1 = (1, 8) := by decide
theorem ly0_2 : fw_lay 0 2 = (13, 80) := by decide
theorem ly0_3 : fw_lay 0 3 = (10, 80) := by decide
theorem ly0_4 : fw_lay 0 4 = (10, 4) := by decide
theorem ly0_5 : fw_lay 0 5 = (10, 480) := by decide
theorem ly0_6 : fw_lay 0 6 = (10, 4) := by decide
theorem ly0_7 : fw_lay 0 7 = (10, 4) := by decide
theorem ly0_168 : fw_lay 0 168 = (4, 10) := by decide
theorem ly0_169 : fw_lay 0 169 = (11, 12) := by decide
theorem ly0_170 : fw_lay 0 170 = (11, 12) := by decide
theorem ly0_171 : fw_lay 0 171 = (10, 12) := by decide
theorem ly0_172 : fw_lay 0 172 = (10, 12) := by decide
theorem ly0_173 : fw_lay 0 173 = (10, 12) := by decide
theorem ly0_174 : fw_lay 0 174 = (10, 12) := by decide
theorem ly0_175 : fw_lay 0 175 = (10, 12) := by decide
theorem ly0_176 : fw_lay 0 176 = (10, 12) := by decide
theorem ly0_177 : fw_lay 0 177 = (10, 48) := by decide
theorem ly0_178 : fw_lay 0 178 = (14, 4) := by decide
theorem ly0_179 : fw_lay 0 179 = (2, 4) := by decide
theorem ly0_180 : fw_lay 0 180 = (12, 200) := by decide
theorem ly0_181 : fw_lay 0 181 = (10, 200) := by decide
theorem ly0_182 : fw_lay 0 182 = (2, 4) := by decide
theorem ly0_183 : fw_lay 0 183 = (12, 200) := by decide
theorem ly0_184 : fw_lay 0 184 = (10, 200) := by decide
theorem ly0_185 : fw_lay 0 185 = (2, 4) := by decide
theorem ly0_186 : fw_lay 0 186 = (12, 200) := by decide
theorem ly0_187 : fw_lay 0 187 = (10, 200) := by decide
theorem ly0_188 : fw_lay 0 188 = (2, 4) := by decide
theorem ly0_189 : fw_lay 0 189 = (12, 200) := by decide
theorem ly0_190 : fw_lay 0 190 = (10, 200) := by decide
theorem ly0_191 : fw_lay 0 191 = (2, 4) := by decide
theorem ly0_192 : fw_lay 0 192 = (12, 32) := by decide
theorem ly0_193 : fw_lay 0 193 = (10, 32) := by decide
theorem ly0_194 : fw_lay 0 194 = (2, 4) := by decide
theorem ly0_195 : fw_lay 0 195 = (12, 384) := by decide
theorem ly0_196 : fw_lay 0 196 = (10, 384) := by decide
theorem ly0_197 : fw_lay 0 197 = (10, 4) := by decide
theorem ly0_198 : fw_lay 0 198 = (3, 5) := by decide
theorem ly0_199 : fw_lay 0 199 = (10, 20) := by decide
theorem ly0_200 : fw_lay 0 200 = (10, 20) := by decide
theorem ly0_201 : fw_lay 0 201 = (10, 20) := by decide
theorem ly0_202 : fw_lay 0 202 = (10, 20) := by decide
theorem ly1_0 : fw_lay 1 0 = (6, 36) := by decide
theorem ly1_1 : fw_lay 1 1 = (10, 4) := by decide
theorem ly1_2 : fw_lay 1 2 = (10, 960) := by decide
theorem ly1_3 : fw_lay 1 3 = (12, 80) := by decide
theorem ly1_4 : fw_lay 1 4 = (10, 16) := by decide
theorem ly1_5 : fw_lay 1 5 = (10, 480) := by decide
theorem ly1_6 : fw_lay 1 6 = (10, 4) := by decide
theorem ly1_7 : fw_lay 1 7 = (10, 4) := by decide
theorem ly1_8 : fw_lay 1 8 = (10, 4) := by decide
theorem ly1_9 : fw_lay 1 9 = (10, 4) := by decide
theorem ly1_10 : fw_lay 1 10 = (11, 12) := by decide
theorem ly1_11 : fw_lay 1 11 = (11, 12) := by decide
theorem ly1_12 : fw_lay 1 12 = (10, 12) := by decide
theorem ly1_13 : fw_lay 1 13 = (10, 12) := by decide
theorem ly1_14 : fw_lay 1 14 = (10, 12) := by decide
theorem ly1_15 : fw_lay 1 15 = (10, 12) := by decide
theorem ly1_16 : fw_lay 1 16 = (10, 12) := by decide
theorem ly1_17 : fw_lay 1 17 = (10, 12) := by decide
theorem ly1_18 : fw_lay 1 18 = (10, 192) := by decide
theorem ly1_19 : fw_lay 1 19 = (11, 12) := by decide
theorem ly1_20 : fw_lay 1 20 = (10, 4) := by decide
theorem ly1_21 : fw_lay 1 21 = (10, 4) := by decide
theorem ly1_22 : fw_lay 1 22 = (12, 800) := by decide
theorem ly1_23 : fw_lay 1 23 = (10, 800) := by decide
theorem ly1_24 : fw_lay 1 24 = (12, 704) := by decide
theorem ly1_25 : fw_lay 1 25 = (10, 704) := by decide
theorem ly1_26 : fw_lay 1 26 = (10, 20) := by decide
theorem ly1_27 : fw_lay 1 27 = (10, 20) := by decide
theorem ly1_28 : fw_lay 1 28 = (10, 20) := by decide
theorem ly1_29 : fw_lay 1 29 = (10, 20) := by decide
theorem ly_ch {c : Int} (h0 : 8 ≤ c) (h1 : c < 168) (h2 : c % 2 = 0) : fw_lay 0 c = (0, 12) := by
  show fw_layC c = _
  unfold fw_layC
  rw [if_neg (by omega), if_pos h1, if_pos (by omega)]
theorem ly_gr {c : Int} (h0 : 8 ≤ c) (h1 : c < 168) (h2 : c % 2 = 1) : fw_lay 0 c = (10, 4) := by
  show fw_layC c = _
  unfold fw_layC
  rw [if_neg (by omega), if_pos h1, if_neg (by omega)]
theorem rc_ch {c : Int} (h0 : 8 ≤ c) (h1 : c < 168) : fw_RC c 0 = c + 1 := by
  unfold fw_RC
  rw [if_neg (by omega), if_neg (by omega), if_neg (by omega), if_pos h1]
theorem rc_2 (x : Int) : fw_RC 2 x = 8 + 2 * x := rfl
theorem rc_178 (x : Int) : fw_RC 178 x = 179 + 3 * x := rfl
/-- a set of pieces at p, with room for n -/
def fw_ps (p : Int) (n : Nat) : Prop := fw_lay 0 p = (2, 4) ∧ fw_lay 0 (p + 1) = (12, n) ∧ fw_lay 0 (p + 2) = (10, n) ∧ fw_RC p 0 = p + 1 ∧ fw_RC p 1 = p + 2 ∧ 179 ≤ p ∧ p + 2 < 197
theorem ps_kept {m : Int} (h0 : 0 ≤ m) (h1 : m < 4) : fw_ps (179 + 3 * m) 200 := by
  rcases (show m = 0 ∨ m = 1 ∨ m = 2 ∨ m = 3 by omega) with rfl | rfl | rfl | rfl <;> exact ⟨by decide, by decide, by decide, by decide, by decide, by decide, by decide⟩
theorem ps_191 : fw_ps 191 32 := ⟨by decide, by decide, by decide, by decide, by decide, by decide, by decide⟩
theorem ps_194 : fw_ps 194 384 := ⟨by decide, by decide, by decide, by decide, by decide, by decide, by decide⟩
def mX0_init : fw_M := (yX0_init, cX0_init, 1, none, 0, 0, 1, 20, 1, 4)
set_option maxRecDepth 20000 in
theorem mv_X0_init : fw_mw mX0_init 0 ∧ ((fw_mN mX0_init).name = "<init>" ∧ fw_mT mX0_init = none ∧ Cond.instanceMethod (fw_mN mX0_init) ∈ fw_tbl) := ⟨⟨fw_mem 93 rfl rfl, fw_mem 67 (by decide +kernel) rfl, ⟨by decide +kernel, by decide +kernel, by decide +kernel⟩, rfl⟩, rfl, rfl, fw_mem 92 (by decide +kernel) rfl⟩
theorem pl_X0_init : plainName (fw_mN mX0_init).cls = true ∧ (fw_mN mX0_init).cls = fw_cn (fw_mO mX0_init) := ⟨by decide +kernel, rfl⟩
def mX0_slot : fw_M := (yX0_slot, cX0_slot, 1, (some .int), 0, 0, 0, 0, 0, 0)
set_option maxRecDepth 20000 in
theorem mv_X0_slot : fw_mv mX0_slot 0 := ⟨⟨fw_mem 420 rfl rfl, fw_mem 67 (by decide +kernel) rfl, ⟨by decide +kernel, by decide +kernel, by decide +kernel⟩, rfl⟩, ⟨fw_mem 418 (by decide +kernel) rfl, fw_mem 419 (by decide +kernel) rfl⟩, ⟨_, _, _, fw_cls0⟩, by decide⟩
theorem pl_X0_slot : plainName (fw_mN mX0_slot).cls = true ∧ (fw_mN mX0_slot).cls = fw_cn (fw_mO mX0_slot) := ⟨by decide +kernel, rfl⟩
def mX0_groundSize : fw_M := (yX0_groundSize, cX0_groundSize, 3, (some .int), 0, 0, 0, 0, 0, 0)
set_option maxRecDepth 20000 in
theorem mv_X0_groundSize : fw_mv mX0_groundSize 0 := ⟨⟨fw_mem 549 rfl rfl, fw_mem 67 (by decide +kernel) rfl, ⟨by decide +kernel, by decide +kernel, by decide +kernel⟩, rfl⟩, ⟨fw_mem 547 (by decide +kernel) rfl, fw_mem 548 (by decide +kernel) rfl⟩, ⟨_, _, _, fw_cls0⟩, by decide⟩
theorem pl_X0_groundSize : plainName (fw_mN mX0_groundSize).cls = true ∧ (fw_mN mX0_groundSize).cls = fw_cn (fw_mO mX0_groundSize) := ⟨by decide +kernel, rfl⟩
def mX0_standsOn : fw_M := (yX0_standsOn, cX0_standsOn, 2, (some .boolean), 0, 0, 0, 0, 0, 0)
set_option maxRecDepth 20000 in
theorem mv_X0_standsOn : fw_mv mX0_standsOn 1 := ⟨⟨fw_mem 416 rfl rfl, fw_mem 67 (by decide +kernel) rfl, ⟨by decide +kernel, by decide +kernel, by decide +kernel⟩, rfl⟩, ⟨fw_mem 414 (by decide +kernel) rfl, fw_mem 415 (by decide +kernel) rfl⟩, ⟨_, _, _, fw_cls0⟩, by decide⟩
theorem pl_X0_standsOn : plainName (fw_mN mX0_standsOn).cls = true ∧ (fw_mN mX0_standsOn).cls = fw_cn (fw_mO mX0_standsOn) := ⟨by decide +kernel, rfl⟩
def mX0_isAheadOf : fw_M := (yX0_isAheadOf, cX0_isAheadOf, 2, (some .boolean), 0, 0, 0, 0, 0, 0)
set_option maxRecDepth 20000 in
theorem mv_X0_isAheadOf : fw_mv mX0_isAheadOf 1 := ⟨⟨fw_mem 464 rfl rfl, fw_mem 67 (by decide +kernel) rfl, ⟨by decide +kernel, by decide +kernel, by decide +kernel⟩, rfl⟩, ⟨fw_mem 462 (by decide +kernel) rfl, fw_mem 463 (by decide +kernel) rfl⟩, ⟨_, _, _, fw_cls0⟩, by decide⟩
theorem pl_X0_isAheadOf : plainName (fw_mN mX0_isAheadOf).cls = true ∧ (fw_mN mX0_isAheadOf).cls = fw_cn (fw_mO mX0_isAheadOf) := ⟨by decide +kernel, rfl⟩
def mX1_init : fw_M := (yX1_init, cX1_init, 2, none, 1, 0, 2, 40, 166, 1932)
set_option maxRecDepth 20000 in
theorem mv_X1_init : fw_mw mX1_init 0 ∧ ((fw_mN mX1_init).name = "<init>" ∧ fw_mT mX1_init = none ∧ Cond.instanceMethod (fw_mN mX1_init) ∈ fw_tbl) := ⟨⟨fw_mem 86 rfl rfl, fw_mem 66 (by decide +kernel) rfl, ⟨by decide +kernel, by decide +kernel, by decide +kernel⟩, rfl⟩, rfl, rfl, fw_mem 85 (by decide +kernel) rfl⟩
theorem pl_X1_init : plainName (fw_mN mX1_init).cls = true ∧ (fw_mN mX1_init).cls = fw_cn (fw_mO mX1_init) := ⟨by decide +kernel, rfl⟩
def mX1_empty : fw_M := (yX1_empty, cX1_empty, 2, none, 1, 0, 0, 0, 0, 0)
set_option maxRecDepth 20000 in
theorem mv_X1_empty : fw_mv mX1_empty 0 := ⟨⟨fw_mem 284 rfl rfl, fw_mem 66 (by decide +kernel) rfl, ⟨by decide +kernel, by decide +kernel, by decide +kernel⟩, rfl⟩, ⟨fw_mem 282 (by decide +kernel) rfl, fw_mem 283 (by decide +kernel) rfl⟩, ⟨_, _, _, fw_cls1⟩, by decide⟩
theorem pl_X1_empty : plainName (fw_mN mX1_empty).cls = true ∧ (fw_mN mX1_empty).cls = fw_cn (fw_mO mX1_empty) := ⟨by decide +kernel, rfl⟩
def mX1_placeOf : fw_M := (yX1_placeOf, cX1_placeOf, 3, (some .int), 1, 0, 0, 0, 0, 0)
set_option maxRecDepth 20000 in
theorem mv_X1_placeOf : fw_mt mX1_placeOf 3 := ⟨⟨fw_mem 368 rfl rfl, fw_mem 66 (by decide +kernel) rfl, ⟨by decide +kernel, by decide +kernel, by decide +kernel⟩, rfl⟩, fw_mem 367 (by decide +kernel) rfl⟩
theorem pl_X1_placeOf : plainName (fw_mN mX1_placeOf).cls = true ∧ (fw_mN mX1_placeOf).cls = fw_cn (fw_mO mX1_placeOf) := ⟨by decide +kernel, rfl⟩
def mX1_knownOf : fw_M := (yX1_knownOf, cX1_knownOf, 4, (some .int), 1, 0, 1, 22, 0, 0)
set_option maxRecDepth 20000 in
theorem mv_X1_knownOf : fw_mv mX1_knownOf 3 := ⟨⟨fw_mem 365 rfl rfl, fw_mem 66 (by decide +kernel) rfl, ⟨by decide +kernel, by decide +kernel, by decide +kernel⟩, rfl⟩, ⟨fw_mem 363 (by decide +kernel) rfl, fw_mem 364 (by decide +kernel) rfl⟩, ⟨_, _, _, fw_cls1⟩, by decide⟩
theorem pl_X1_knownOf : plainName (fw_mN mX1_knownOf).cls = true ∧ (fw_mN mX1_knownOf).cls = fw_cn (fw_mO mX1_knownOf) := ⟨by decide +kernel, rfl⟩
def mX1_knows : fw_M := (yX1_knows, cX1_knows, 4, (some .boolean), 1, 0, 2, 45, 0, 0)
set_option maxRecDepth 20000 in
theorem mv_X1_knows : fw_mv mX1_knows 3 := ⟨⟨fw_mem 361 rfl rfl, fw_mem 66 (by decide +kernel) rfl, ⟨by decide +kernel, by decide +kernel, by decide +kernel⟩, rfl⟩, ⟨fw_mem 359 (by decide +kernel) rfl, fw_mem 360 (by decide +kernel) rfl⟩, ⟨_, _, _, fw_cls1⟩, by decide⟩
theorem pl_X1_knows : plainName (fw_mN mX1_knows).cls = true ∧ (fw_mN mX1_knows).cls = fw_cn (fw_mO mX1_knows) := ⟨by decide +kernel, rfl⟩
def mX1_changeOf : fw_M := (yX1_changeOf, cX1_changeOf, 3, (some (.object "FolderRows$Change")), 1, 0, 0, 0, 0, 0)
set_option maxRecDepth 20000 in
theorem mv_X1_changeOf : fw_mv mX1_changeOf 2 := ⟨⟨fw_mem 455 rfl rfl, fw_mem 66 (by decide +kernel) rfl, ⟨by decide +kernel, by decide +kernel, by decide +kernel⟩, rfl⟩, ⟨fw_mem 453 (by decide +kernel) rfl, fw_mem 454 (by decide +kernel) rfl⟩, ⟨_, _, _, fw_cls1⟩, by decide⟩
theorem pl_X1_changeOf : plainName (fw_mN mX1_changeOf).cls = true ∧ (fw_mN mX1_changeOf).cls = fw_cn (fw_mO mX1_changeOf) := ⟨by decide +kernel, rfl⟩
def mX1_inOrder : fw_M := (yX1_inOrder, cX1_inOrder, 2, (some (.object "FolderRows$Change")), 1, 0, 0, 0, 0, 0)
set_option maxRecDepth 20000 in
theorem mv_X1_inOrder : fw_mv mX1_inOrder 1 := ⟨⟨fw_mem 357 rfl rfl, fw_mem 66 (by decide +kernel) rfl, ⟨by decide +kernel, by decide +kernel, by decide +kernel⟩, rfl⟩, ⟨fw_mem 355 (by decide +kernel) rfl, fw_mem 356 (by decide +kernel) rfl⟩, ⟨_, _, _, fw_cls1⟩, by decide⟩
theorem pl_X1_inOrder : plainName (fw_mN mX1_inOrder).cls = true ∧ (fw_mN mX1_inOrder).cls = fw_cn (fw_mO mX1_inOrder) := ⟨by decide +kernel, rfl⟩
def mX1_isFull : fw_M := (yX1_isFull, cX1_isFull, 2, (some .boolean), 1, 0, 0, 0, 0, 0)
set_option maxRecDepth 20000 in
theorem mv_X1_isFull : fw_mv mX1_isFull 1 := ⟨⟨fw_mem 447 rfl rfl, fw_mem 66 (by decide +kernel) rfl, ⟨by decide +kernel, by decide +kernel, by decide +kernel⟩, rfl⟩, ⟨fw_mem 445 (by decide +kernel) rfl, fw_mem 446 (by decide +kernel) rfl⟩, ⟨_, _, _, fw_cls1⟩, by decide⟩
theorem pl_X1_isFull : plainName (fw_mN mX1_isFull).cls = true ∧ (fw_mN mX1_isFull).cls = fw_cn (fw_mO mX1_isFull) := ⟨by decide +kernel, rfl⟩
def mX1_append : fw_M := (yX1_append, cX1_append, 7, (some (.object "FolderRows$Change")), 1, 0, 2, 45, 0, 0)
set_option maxRecDepth 20000 in
theorem mv_X1_append : fw_mv mX1_append 3 := ⟨⟨fw_mem 451 rfl rfl, fw_mem 66 (by decide +kernel) rfl, ⟨by decide +kernel, by decide +kernel, by decide +kernel⟩, rfl⟩, ⟨fw_mem 449 (by decide +kernel) rfl, fw_mem 450 (by decide +kernel) rfl⟩, ⟨_, _, _, fw_cls1⟩, by decide⟩
theorem pl_X1_append : plainName (fw_mN mX1_append).cls = true ∧ (fw_mN mX1_append).cls = fw_cn (fw_mO mX1_append) := ⟨by decide +kernel, rfl⟩
def mX1_putInOrder : fw_M := (yX1_putInOrder, cX1_putInOrder, 3, none, 1, 0, 1, 21, 0, 0)
set_option maxRecDepth 20000 in
theorem mv_X1_putInOrder : fw_mv mX1_putInOrder 1 := ⟨⟨fw_mem 460 rfl rfl, fw_mem 66 (by decide +kernel) rfl, ⟨by decide +kernel, by decide +kernel, by decide +kernel⟩, rfl⟩, ⟨fw_mem 459 (by decide +kernel) rfl, fw_mem 13 (by decide +kernel) rfl⟩, ⟨_, _, _, fw_cls1⟩, by decide⟩
theorem pl_X1_putInOrder : plainName (fw_mN mX1_putInOrder).cls = true ∧ (fw_mN mX1_putInOrder).cls = fw_cn (fw_mO mX1_putInOrder) := ⟨by decide +kernel, rfl⟩
def mX1_leastUnmade : fw_M := (yX1_leastUnmade, cX1_leastUnmade, 5, (some .int), 1, 0, 3, 68, 0, 0)
set_option maxRecDepth 20000 in
theorem mv_X1_leastUnmade : fw_mv mX1_leastUnmade 1 := ⟨⟨fw_mem 441 rfl rfl, fw_mem 66 (by decide +kernel) rfl, ⟨by decide +kernel, by decide +kernel, by decide +kernel⟩, rfl⟩, ⟨fw_mem 439 (by decide +kernel) rfl, fw_mem 440 (by decide +kernel) rfl⟩, ⟨_, _, _, fw_cls1⟩, by decide⟩
theorem pl_X1_leastUnmade : plainName (fw_mN mX1_leastUnmade).cls = true ∧ (fw_mN mX1_leastUnmade).cls = fw_cn (fw_mO mX1_leastUnmade) := ⟨by decide +kernel, rfl⟩
def mX1_passOn : fw_M := (yX1_passOn, cX1_passOn, 7, (some .int), 1, 0, 3, 68, 0, 0)
set_option maxRecDepth 20000 in
theorem mv_X1_passOn : fw_mv mX1_passOn 3 := ⟨⟨fw_mem 536 rfl rfl, fw_mem 66 (by decide +kernel) rfl, ⟨by decide +kernel, by decide +kernel, by decide +kernel⟩, rfl⟩, ⟨fw_mem 534 (by decide +kernel) rfl, fw_mem 535 (by decide +kernel) rfl⟩, ⟨_, _, _, fw_cls1⟩, by decide⟩
theorem pl_X1_passOn : plainName (fw_mN mX1_passOn).cls = true ∧ (fw_mN mX1_passOn).cls = fw_cn (fw_mO mX1_passOn) := ⟨by decide +kernel, rfl⟩
def mX1_nextDay : fw_M := (yX1_nextDay, cX1_nextDay, 2, none, 1, 0, 1, 40, 0, 0)
set_option maxRecDepth 20000 in
theorem mv_X1_nextDay : fw_mv mX1_nextDay 0 := ⟨⟨fw_mem 702 rfl rfl, fw_mem 66 (by decide +kernel) rfl, ⟨by decide +kernel, by decide +kernel, by decide +kernel⟩, rfl⟩, ⟨fw_mem 700 (by decide +kernel) rfl, fw_mem 701 (by decide +kernel) rfl⟩, ⟨_, _, _, fw_cls1⟩, by decide⟩
theorem pl_X1_nextDay : plainName (fw_mN mX1_nextDay).cls = true ∧ (fw_mN mX1_nextDay).cls = fw_cn (fw_mO mX1_nextDay) := ⟨by decide +kernel, rfl⟩
def mX1_setApart : fw_M := (yX1_setApart, cX1_setApart, 4, (some .int), 1, 0, 2, 44, 0, 0)
set_option maxRecDepth 20000 in
theorem mv_X1_setApart : fw_mv mX1_setApart 2 := ⟨⟨fw_mem 640 rfl rfl, fw_mem 66 (by decide +kernel) rfl, ⟨by decide +kernel, by decide +kernel, by decide +kernel⟩, rfl⟩, ⟨fw_mem 638 (by decide +kernel) rfl, fw_mem 639 (by decide +kernel) rfl⟩, ⟨_, _, _, fw_cls1⟩, by decide⟩
theorem pl_X1_setApart : plainName (fw_mN mX1_setApart).cls = true ∧ (fw_mN mX1_setApart).cls = fw_cn (fw_mO mX1_setApart) := ⟨by decide +kernel, rfl⟩
def mX1_findLeftOut : fw_M := (yX1_findLeftOut, cX1_findLeftOut, 3, none, 1, 0, 1, 22, 0, 0)
set_option maxRecDepth 20000 in
theorem mv_X1_findLeftOut : fw_mv mX1_findLeftOut 0 := ⟨⟨fw_mem 469 rfl rfl, fw_mem 66 (by decide +kernel) rfl, ⟨by decide +kernel, by decide +kernel, by decide +kernel⟩, rfl⟩, ⟨fw_mem 468 (by decide +kernel) rfl, fw_mem 14 (by decide +kernel) rfl⟩, ⟨_, _, _, fw_cls1⟩, by decide⟩
theorem pl_X1_findLeftOut : plainName (fw_mN mX1_findLeftOut).cls = true ∧ (fw_mN mX1_findLeftOut).cls = fw_cn (fw_mO mX1_findLeftOut) := ⟨by decide +kernel, rfl⟩
def mX1_standsOnLeftOut : fw_M := (yX1_standsOnLeftOut, cX1_standsOnLeftOut, 3, (some .boolean), 1, 0, 0, 0, 0, 0)
set_option maxRecDepth 20000 in
theorem mv_X1_standsOnLeftOut : fw_mv mX1_standsOnLeftOut 1 := ⟨⟨fw_mem 473 rfl rfl, fw_mem 66 (by decide +kernel) rfl, ⟨by decide +kernel, by decide +kernel, by decide +kernel⟩, rfl⟩, ⟨fw_mem 472 (by decide +kernel) rfl, fw_mem 15 (by decide +kernel) rfl⟩, ⟨_, _, _, fw_cls1⟩, by decide⟩
theorem pl_X1_standsOnLeftOut : plainName (fw_mN mX1_standsOnLeftOut).cls = true ∧ (fw_mN mX1_standsOnLeftOut).cls = fw_cn (fw_mO mX1_standsOnLeftOut) := ⟨by decide +kernel, rfl⟩
def mX1_isLeftOut : fw_M := (yX1_isLeftOut, cX1_isLeftOut, 2, (some .boolean), 1, 0, 0, 0, 0, 0)
set_option maxRecDepth 20000 in
theorem mv_X1_isLeftOut : fw_mv mX1_isLeftOut 1 := ⟨⟨fw_mem 372 rfl rfl, fw_mem 66 (by decide +kernel) rfl, ⟨by decide +kernel, by decide +kernel, by decide +kernel⟩, rfl⟩, ⟨fw_mem 370 (by decide +kernel) rfl, fw_mem 371 (by decide +kernel) rfl⟩, ⟨_, _, _, fw_cls1⟩, by decide⟩
theorem pl_X1_isLeftOut : plainName (fw_mN mX1_isLeftOut).cls = true ∧ (fw_mN mX1_isLeftOut).cls = fw_cn (fw_mO mX1_isLeftOut) := ⟨by decide +kernel, rfl⟩
def mX1_leftOutInAll : fw_M := (yX1_leftOutInAll, cX1_leftOutInAll, 3, (some .int), 1, 0, 1, 21, 0, 0)
set_option maxRecDepth 20000 in
theorem mv_X1_leftOutInAll : fw_mv mX1_leftOutInAll 0 := ⟨⟨fw_mem 760 rfl rfl, fw_mem 66 (by decide +kernel) rfl, ⟨by decide +kernel, by decide +kernel, by decide +kernel⟩, rfl⟩, ⟨fw_mem 758 (by decide +kernel) rfl, fw_mem 759 (by decide +kernel) rfl⟩, ⟨_, _, _, fw_cls1⟩, by decide⟩
theorem pl_X1_leftOutInAll : plainName (fw_mN mX1_leftOutInAll).cls = true ∧ (fw_mN mX1_leftOutInAll).cls = fw_cn (fw_mO mX1_leftOutInAll) := ⟨by decide +kernel, rfl⟩
def mX1_madeOnDay : fw_M := (yX1_madeOnDay, cX1_madeOnDay, 5, (some .int), 1, 0, 1, 22, 0, 0)
set_option maxRecDepth 20000 in
theorem mv_X1_madeOnDay : fw_mv mX1_madeOnDay 2 := ⟨⟨fw_mem 742 rfl rfl, fw_mem 66 (by decide +kernel) rfl, ⟨by decide +kernel, by decide +kernel, by decide +kernel⟩, rfl⟩, ⟨fw_mem 740 (by decide +kernel) rfl, fw_mem 741 (by decide +kernel) rfl⟩, ⟨_, _, _, fw_cls1⟩, by decide⟩
theorem pl_X1_madeOnDay : plainName (fw_mN mX1_madeOnDay).cls = true ∧ (fw_mN mX1_madeOnDay).cls = fw_cn (fw_mO mX1_madeOnDay) := ⟨by decide +kernel, rfl⟩
def mX2_init (n : Nat) : fw_M := (yX2_init, cX2_init, 2, none, 2, 0, 1, 21, 2, 2 * n)
set_option maxRecDepth 20000 in
theorem mv_X2_init : fw_mw (mX2_init 0) 1 ∧ ((fw_mN (mX2_init 0)).name = "<init>" ∧ fw_mT (mX2_init 0) = none ∧ Cond.instanceMethod (fw_mN (mX2_init 0)) ∈ fw_tbl) := ⟨⟨fw_mem 228 rfl rfl, fw_mem 69 (by decide +kernel) rfl, ⟨by decide +kernel, by decide +kernel, by decide +kernel⟩, rfl⟩, rfl, rfl, fw_mem 227 (by decide +kernel) rfl⟩
theorem pl_X2_init : plainName (fw_mN (mX2_init 0)).cls = true ∧ (fw_mN (mX2_init 0)).cls = fw_cn (fw_mO (mX2_init 0)) := ⟨by decide +kernel, rfl⟩
theorem mv_X2_initn (n : Nat) : fw_mw (mX2_init n) 1 ∧ ((fw_mN (mX2_init n)).name = "<init>" ∧ fw_mT (mX2_init n) = none ∧ Cond.instanceMethod (fw_mN (mX2_init n)) ∈ fw_tbl) := mv_X2_init
theorem pl_X2_initn (n : Nat) : plainName (fw_mN (mX2_init n)).cls = true ∧ (fw_mN (mX2_init n)).cls = fw_cn (fw_mO (mX2_init n)) := pl_X2_init
def mX2_empty : fw_M := (yX2_empty, cX2_empty, 1, none, 2, 0, 0, 0, 0, 0)
set_option maxRecDepth 20000 in
theorem mv_X2_empty : fw_mv mX2_empty 0 := ⟨⟨fw_mem 288 rfl rfl, fw_mem 69 (by decide +kernel) rfl, ⟨by decide +kernel, by decide +kernel, by decide +kernel⟩, rfl⟩, ⟨fw_mem 286 (by decide +kernel) rfl, fw_mem 287 (by decide +kernel) rfl⟩, ⟨_, _, _, fw_cls2⟩, by decide⟩
theorem pl_X2_empty : plainName (fw_mN mX2_empty).cls = true ∧ (fw_mN mX2_empty).cls = fw_cn (fw_mO mX2_empty) := ⟨by decide +kernel, rfl⟩
def mX2_placeOf : fw_M := (yX2_placeOf, cX2_placeOf, 5, (some .int), 2, 0, 0, 0, 0, 0)
set_option maxRecDepth 20000 in
theorem mv_X2_placeOf : fw_mv mX2_placeOf 2 := ⟨⟨fw_mem 516 rfl rfl, fw_mem 69 (by decide +kernel) rfl, ⟨by decide +kernel, by decide +kernel, by decide +kernel⟩, rfl⟩, ⟨fw_mem 515 (by decide +kernel) rfl, fw_mem 17 (by decide +kernel) rfl⟩, ⟨_, _, _, fw_cls2⟩, by decide⟩
theorem pl_X2_placeOf : plainName (fw_mN mX2_placeOf).cls = true ∧ (fw_mN mX2_placeOf).cls = fw_cn (fw_mO mX2_placeOf) := ⟨by decide +kernel, rfl⟩
def mX2_has : fw_M := (yX2_has, cX2_has, 4, (some .boolean), 2, 0, 1, 24, 0, 0)
set_option maxRecDepth 20000 in
theorem mv_X2_has : fw_mv mX2_has 2 := ⟨⟨fw_mem 512 rfl rfl, fw_mem 69 (by decide +kernel) rfl, ⟨by decide +kernel, by decide +kernel, by decide +kernel⟩, rfl⟩, ⟨fw_mem 510 (by decide +kernel) rfl, fw_mem 511 (by decide +kernel) rfl⟩, ⟨_, _, _, fw_cls2⟩, by decide⟩
theorem pl_X2_has : plainName (fw_mN mX2_has).cls = true ∧ (fw_mN mX2_has).cls = fw_cn (fw_mO mX2_has) := ⟨by decide +kernel, rfl⟩
def mX2_add : fw_M := (yX2_add, cX2_add, 4, none, 2, 0, 2, 47, 0, 0)
set_option maxRecDepth 20000 in
theorem mv_X2_add : fw_mv mX2_add 2 := ⟨⟨fw_mem 508 rfl rfl, fw_mem 69 (by decide +kernel) rfl, ⟨by decide +kernel, by decide +kernel, by decide +kernel⟩, rfl⟩, ⟨fw_mem 507 (by decide +kernel) rfl, fw_mem 16 (by decide +kernel) rfl⟩, ⟨_, _, _, fw_cls2⟩, by decide⟩
theorem pl_X2_add : plainName (fw_mN mX2_add).cls = true ∧ (fw_mN mX2_add).cls = fw_cn (fw_mO mX2_add) := ⟨by decide +kernel, rfl⟩
def mX2_removeAt : fw_M := (yX2_removeAt, cX2_removeAt, 2, none, 2, 0, 0, 0, 0, 0)
set_option maxRecDepth 20000 in
theorem mv_X2_removeAt : fw_mv mX2_removeAt 1 := ⟨⟨fw_mem 673 rfl rfl, fw_mem 69 (by decide +kernel) rfl, ⟨by decide +kernel, by decide +kernel, by decide +kernel⟩, rfl⟩, ⟨fw_mem 672 (by decide +kernel) rfl, fw_mem 28 (by decide +kernel) rfl⟩, ⟨_, _, _, fw_cls2⟩, by decide⟩
theorem pl_X2_removeAt : plainName (fw_mN mX2_removeAt).cls = true ∧ (fw_mN mX2_removeAt).cls = fw_cn (fw_mO mX2_removeAt) := ⟨by decide +kernel, rfl⟩
def mX2_addCutOf : fw_M := (yX2_addCutOf, cX2_addCutOf, 9, none, 2, 0, 3, 70, 0, 0)
set_option maxRecDepth 20000 in
theorem mv_X2_addCutOf : fw_mv mX2_addCutOf 2 := ⟨⟨fw_mem 501 rfl rfl, fw_mem 69 (by decide +kernel) rfl, ⟨by decide +kernel, by decide +kernel, by decide +kernel⟩, rfl⟩, ⟨fw_mem 499 (by decide +kernel) rfl, fw_mem 500 (by decide +kernel) rfl⟩, ⟨_, _, _, fw_cls2⟩, by decide⟩
theorem pl_X2_addCutOf : plainName (fw_mN mX2_addCutOf).cls = true ∧ (fw_mN mX2_addCutOf).cls = fw_cn (fw_mO mX2_addCutOf) := ⟨by decide +kernel, rfl⟩
def mX2_addAll : fw_M := (yX2_addAll, cX2_addAll, 3, none, 2, 0, 3, 70, 0, 0)
set_option maxRecDepth 20000 in
theorem mv_X2_addAll : fw_mv mX2_addAll 1 := ⟨⟨fw_mem 528 rfl rfl, fw_mem 69 (by decide +kernel) rfl, ⟨by decide +kernel, by decide +kernel, by decide +kernel⟩, rfl⟩, ⟨fw_mem 526 (by decide +kernel) rfl, fw_mem 527 (by decide +kernel) rfl⟩, ⟨_, _, _, fw_cls2⟩, by decide⟩
theorem pl_X2_addAll : plainName (fw_mN mX2_addAll).cls = true ∧ (fw_mN mX2_addAll).cls = fw_cn (fw_mO mX2_addAll) := ⟨by decide +kernel, rfl⟩
def mX2_removeAll : fw_M := (yX2_removeAll, cX2_removeAll, 3, none, 2, 0, 2, 47, 0, 0)
set_option maxRecDepth 20000 in
theorem mv_X2_removeAll : fw_mv mX2_removeAll 1 := ⟨⟨fw_mem 669 rfl rfl, fw_mem 69 (by decide +kernel) rfl, ⟨by decide +kernel, by decide +kernel, by decide +kernel⟩, rfl⟩, ⟨fw_mem 667 (by decide +kernel) rfl, fw_mem 668 (by decide +kernel) rfl⟩, ⟨_, _, _, fw_cls2⟩, by decide⟩
theorem pl_X2_removeAll : plainName (fw_mN mX2_removeAll).cls = true ∧ (fw_mN mX2_removeAll).cls = fw_cn (fw_mO mX2_removeAll) := ⟨by decide +kernel, rfl⟩
def mX2_keepOnly : fw_M := (yX2_keepOnly, cX2_keepOnly, 3, none, 2, 0, 2, 47, 0, 0)
set_option maxRecDepth 20000 in
theorem mv_X2_keepOnly : fw_mv mX2_keepOnly 1 := ⟨⟨fw_mem 690 rfl rfl, fw_mem 69 (by decide +kernel) rfl, ⟨by decide +kernel, by decide +kernel, by decide +kernel⟩, rfl⟩, ⟨fw_mem 688 (by decide +kernel) rfl, fw_mem 689 (by decide +kernel) rfl⟩, ⟨_, _, _, fw_cls2⟩, by decide⟩
theorem pl_X2_keepOnly : plainName (fw_mN mX2_keepOnly).cls = true ∧ (fw_mN mX2_keepOnly).cls = fw_cn (fw_mO mX2_keepOnly) := ⟨by decide +kernel, rfl⟩
def mX2_bytesNotIn : fw_M := (yX2_bytesNotIn, cX2_bytesNotIn, 4, (some .int), 2, 0, 2, 47, 0, 0)
set_option maxRecDepth 20000 in
theorem mv_X2_bytesNotIn : fw_mv mX2_bytesNotIn 1 := ⟨⟨fw_mem 524 rfl rfl, fw_mem 69 (by decide +kernel) rfl, ⟨by decide +kernel, by decide +kernel, by decide +kernel⟩, rfl⟩, ⟨fw_mem 522 (by decide +kernel) rfl, fw_mem 523 (by decide +kernel) rfl⟩, ⟨_, _, _, fw_cls2⟩, by decide⟩
theorem pl_X2_bytesNotIn : plainName (fw_mN mX2_bytesNotIn).cls = true ∧ (fw_mN mX2_bytesNotIn).cls = fw_cn (fw_mO mX2_bytesNotIn) := ⟨by decide +kernel, rfl⟩
def mX3_init : fw_M := (yX3_init, cX3_init, 1, none, 3, 0, 1, 20, 4, 80)
set_option maxRecDepth 20000 in
theorem mv_X3_init : fw_mw mX3_init 0 ∧ ((fw_mN mX3_init).name = "<init>" ∧ fw_mT mX3_init = none ∧ Cond.instanceMethod (fw_mN mX3_init) ∈ fw_tbl) := ⟨⟨fw_mem 255 rfl rfl, fw_mem 71 (by decide +kernel) rfl, ⟨by decide +kernel, by decide +kernel, by decide +kernel⟩, rfl⟩, rfl, rfl, fw_mem 254 (by decide +kernel) rfl⟩
theorem pl_X3_init : plainName (fw_mN mX3_init).cls = true ∧ (fw_mN mX3_init).cls = fw_cn (fw_mO mX3_init) := ⟨by decide +kernel, rfl⟩
def mX3_begin : fw_M := (yX3_begin, cX3_begin, 4, (some .int), 3, 0, 0, 0, 0, 0)
set_option maxRecDepth 20000 in
theorem mv_X3_begin : fw_mv mX3_begin 3 := ⟨⟨fw_mem 716 rfl rfl, fw_mem 71 (by decide +kernel) rfl, ⟨by decide +kernel, by decide +kernel, by decide +kernel⟩, rfl⟩, ⟨fw_mem 714 (by decide +kernel) rfl, fw_mem 715 (by decide +kernel) rfl⟩, ⟨_, _, _, fw_cls3⟩, by decide⟩
theorem pl_X3_begin : plainName (fw_mN mX3_begin).cls = true ∧ (fw_mN mX3_begin).cls = fw_cn (fw_mO mX3_begin) := ⟨by decide +kernel, rfl⟩
def mX3_holds : fw_M := (yX3_holds, cX3_holds, 5, (some .boolean), 3, 0, 0, 0, 0, 0)
set_option maxRecDepth 20000 in
theorem mv_X3_holds : fw_mv mX3_holds 3 := ⟨⟨fw_mem 728 rfl rfl, fw_mem 71 (by decide +kernel) rfl, ⟨by decide +kernel, by decide +kernel, by decide +kernel⟩, rfl⟩, ⟨fw_mem 726 (by decide +kernel) rfl, fw_mem 727 (by decide +kernel) rfl⟩, ⟨_, _, _, fw_cls3⟩, by decide⟩
theorem pl_X3_holds : plainName (fw_mN mX3_holds).cls = true ∧ (fw_mN mX3_holds).cls = fw_cn (fw_mO mX3_holds) := ⟨by decide +kernel, rfl⟩
def mX3_holding : fw_M := (yX3_holding, cX3_holding, 3, (some .int), 3, 0, 0, 0, 0, 0)
set_option maxRecDepth 20000 in
theorem mv_X3_holding : fw_mv mX3_holding 0 := ⟨⟨fw_mem 756 rfl rfl, fw_mem 71 (by decide +kernel) rfl, ⟨by decide +kernel, by decide +kernel, by decide +kernel⟩, rfl⟩, ⟨fw_mem 754 (by decide +kernel) rfl, fw_mem 755 (by decide +kernel) rfl⟩, ⟨_, _, _, fw_cls3⟩, by decide⟩
theorem pl_X3_holding : plainName (fw_mN mX3_holding).cls = true ∧ (fw_mN mX3_holding).cls = fw_cn (fw_mO mX3_holding) := ⟨by decide +kernel, rfl⟩
def mX4_init : fw_M := (yX4_init, cX4_init, 2, none, 4, 0, 1, 20, 9, 144)
set_option maxRecDepth 20000 in
theorem mv_X4_init : fw_mw mX4_init 1 ∧ ((fw_mN mX4_init).name = "<init>" ∧ fw_mT mX4_init = none ∧ Cond.instanceMethod (fw_mN mX4_init) ∈ fw_tbl) := ⟨⟨fw_mem 185 rfl rfl, fw_mem 68 (by decide +kernel) rfl, ⟨by decide +kernel, by decide +kernel, by decide +kernel⟩, rfl⟩, rfl, rfl, fw_mem 184 (by decide +kernel) rfl⟩
theorem pl_X4_init : plainName (fw_mN mX4_init).cls = true ∧ (fw_mN mX4_init).cls = fw_cn (fw_mO mX4_init) := ⟨by decide +kernel, rfl⟩
def mX4_grow : fw_M := (yX4_grow, cX4_grow, 6, none, 4, 0, 4, 93, 0, 0)
set_option maxRecDepth 20000 in
theorem mv_X4_grow : fw_mv mX4_grow 3 := ⟨⟨fw_mem 349 rfl rfl, fw_mem 68 (by decide +kernel) rfl, ⟨by decide +kernel, by decide +kernel, by decide +kernel⟩, rfl⟩, ⟨fw_mem 347 (by decide +kernel) rfl, fw_mem 348 (by decide +kernel) rfl⟩, ⟨_, _, _, fw_cls4⟩, by decide⟩
theorem pl_X4_grow : plainName (fw_mN mX4_grow).cls = true ∧ (fw_mN mX4_grow).cls = fw_cn (fw_mO mX4_grow) := ⟨by decide +kernel, rfl⟩
def mX4_clear : fw_M := (yX4_clear, cX4_clear, 2, none, 4, 0, 0, 0, 0, 0)
set_option maxRecDepth 20000 in
theorem mv_X4_clear : fw_mv mX4_clear 0 := ⟨⟨fw_mem 353 rfl rfl, fw_mem 68 (by decide +kernel) rfl, ⟨by decide +kernel, by decide +kernel, by decide +kernel⟩, rfl⟩, ⟨fw_mem 352 (by decide +kernel) rfl, fw_mem 3 (by decide +kernel) rfl⟩, ⟨_, _, _, fw_cls4⟩, by decide⟩
theorem pl_X4_clear : plainName (fw_mN mX4_clear).cls = true ∧ (fw_mN mX4_clear).cls = fw_cn (fw_mO mX4_clear) := ⟨by decide +kernel, rfl⟩
def mX4_apply : fw_M := (yX4_apply, cX4_apply, 4, none, 4, 0, 3, 70, 0, 0)
set_option maxRecDepth 20000 in
theorem mv_X4_apply : fw_mv mX4_apply 3 := ⟨⟨fw_mem 376 rfl rfl, fw_mem 68 (by decide +kernel) rfl, ⟨by decide +kernel, by decide +kernel, by decide +kernel⟩, rfl⟩, ⟨fw_mem 375 (by decide +kernel) rfl, fw_mem 4 (by decide +kernel) rfl⟩, ⟨_, _, _, fw_cls4⟩, by decide⟩
theorem pl_X4_apply : plainName (fw_mN mX4_apply).cls = true ∧ (fw_mN mX4_apply).cls = fw_cn (fw_mO mX4_apply) := ⟨by decide +kernel, rfl⟩
def mX4_applyNew : fw_M := (yX4_applyNew, cX4_applyNew, 4, none, 4, 0, 1, 23, 0, 0)
set_option maxRecDepth 20000 in
theorem mv_X4_applyNew : fw_mv mX4_applyNew 2 := ⟨⟨fw_mem 380 rfl rfl, fw_mem 68 (by decide +kernel) rfl, ⟨by decide +kernel, by decide +kernel, by decide +kernel⟩, rfl⟩, ⟨fw_mem 379 (by decide +kernel) rfl, fw_mem 5 (by decide +kernel) rfl⟩, ⟨_, _, _, fw_cls4⟩, by decide⟩
theorem pl_X4_applyNew : plainName (fw_mN mX4_applyNew).cls = true ∧ (fw_mN mX4_applyNew).cls = fw_cn (fw_mO mX4_applyNew) := ⟨by decide +kernel, rfl⟩
def mX4_put : fw_M := (yX4_put, cX4_put, 4, none, 4, 0, 0, 0, 0, 0)
set_option maxRecDepth 20000 in
theorem mv_X4_put : fw_mv mX4_put 3 := ⟨⟨fw_mem 388 rfl rfl, fw_mem 68 (by decide +kernel) rfl, ⟨by decide +kernel, by decide +kernel, by decide +kernel⟩, rfl⟩, ⟨fw_mem 387 (by decide +kernel) rfl, fw_mem 6 (by decide +kernel) rfl⟩, ⟨_, _, _, fw_cls4⟩, by decide⟩
theorem pl_X4_put : plainName (fw_mN mX4_put).cls = true ∧ (fw_mN mX4_put).cls = fw_cn (fw_mO mX4_put) := ⟨by decide +kernel, rfl⟩
def mX4_applyGone : fw_M := (yX4_applyGone, cX4_applyGone, 3, none, 4, 0, 1, 24, 0, 0)
set_option maxRecDepth 20000 in
theorem mv_X4_applyGone : fw_mv mX4_applyGone 1 := ⟨⟨fw_mem 400 rfl rfl, fw_mem 68 (by decide +kernel) rfl, ⟨by decide +kernel, by decide +kernel, by decide +kernel⟩, rfl⟩, ⟨fw_mem 399 (by decide +kernel) rfl, fw_mem 7 (by decide +kernel) rfl⟩, ⟨_, _, _, fw_cls4⟩, by decide⟩
theorem pl_X4_applyGone : plainName (fw_mN mX4_applyGone).cls = true ∧ (fw_mN mX4_applyGone).cls = fw_cn (fw_mO mX4_applyGone) := ⟨by decide +kernel, rfl⟩
def mX4_applyWrite : fw_M := (yX4_applyWrite, cX4_applyWrite, 4, none, 4, 0, 2, 47, 0, 0)
set_option maxRecDepth 20000 in
theorem mv_X4_applyWrite : fw_mv mX4_applyWrite 2 := ⟨⟨fw_mem 404 rfl rfl, fw_mem 68 (by decide +kernel) rfl, ⟨by decide +kernel, by decide +kernel, by decide +kernel⟩, rfl⟩, ⟨fw_mem 403 (by decide +kernel) rfl, fw_mem 8 (by decide +kernel) rfl⟩, ⟨_, _, _, fw_cls4⟩, by decide⟩
theorem pl_X4_applyWrite : plainName (fw_mN mX4_applyWrite).cls = true ∧ (fw_mN mX4_applyWrite).cls = fw_cn (fw_mO mX4_applyWrite) := ⟨by decide +kernel, rfl⟩
def mX4_holdRow : fw_M := (yX4_holdRow, cX4_holdRow, 6, none, 4, 0, 1, 22, 0, 0)
set_option maxRecDepth 20000 in
theorem mv_X4_holdRow : fw_mv mX4_holdRow 2 := ⟨⟨fw_mem 408 rfl rfl, fw_mem 68 (by decide +kernel) rfl, ⟨by decide +kernel, by decide +kernel, by decide +kernel⟩, rfl⟩, ⟨fw_mem 407 (by decide +kernel) rfl, fw_mem 9 (by decide +kernel) rfl⟩, ⟨_, _, _, fw_cls4⟩, by decide⟩
theorem pl_X4_holdRow : plainName (fw_mN mX4_holdRow).cls = true ∧ (fw_mN mX4_holdRow).cls = fw_cn (fw_mO mX4_holdRow) := ⟨by decide +kernel, rfl⟩
def mX4_nameAll : fw_M := (yX4_nameAll, cX4_nameAll, 5, none, 4, 0, 2, 45, 0, 0)
set_option maxRecDepth 20000 in
theorem mv_X4_nameAll : fw_mv mX4_nameAll 1 := ⟨⟨fw_mem 424 rfl rfl, fw_mem 68 (by decide +kernel) rfl, ⟨by decide +kernel, by decide +kernel, by decide +kernel⟩, rfl⟩, ⟨fw_mem 423 (by decide +kernel) rfl, fw_mem 10 (by decide +kernel) rfl⟩, ⟨_, _, _, fw_cls4⟩, by decide⟩
theorem pl_X4_nameAll : plainName (fw_mN mX4_nameAll).cls = true ∧ (fw_mN mX4_nameAll).cls = fw_cn (fw_mO mX4_nameAll) := ⟨by decide +kernel, rfl⟩
def mX4_nextUnnamed : fw_M := (yX4_nextUnnamed, cX4_nextUnnamed, 4, (some .int), 4, 0, 0, 0, 0, 0)
set_option maxRecDepth 20000 in
theorem mv_X4_nextUnnamed : fw_mv mX4_nextUnnamed 1 := ⟨⟨fw_mem 428 rfl rfl, fw_mem 68 (by decide +kernel) rfl, ⟨by decide +kernel, by decide +kernel, by decide +kernel⟩, rfl⟩, ⟨fw_mem 427 (by decide +kernel) rfl, fw_mem 11 (by decide +kernel) rfl⟩, ⟨_, _, _, fw_cls4⟩, by decide⟩
theorem pl_X4_nextUnnamed : plainName (fw_mN mX4_nextUnnamed).cls = true ∧ (fw_mN mX4_nextUnnamed).cls = fw_cn (fw_mO mX4_nextUnnamed) := ⟨by decide +kernel, rfl⟩
def mX4_freeNameFor : fw_M := (yX4_freeNameFor, cX4_freeNameFor, 3, (some .int), 4, 0, 1, 23, 0, 0)
set_option maxRecDepth 20000 in
theorem mv_X4_freeNameFor : fw_mv mX4_freeNameFor 1 := ⟨⟨fw_mem 432 rfl rfl, fw_mem 68 (by decide +kernel) rfl, ⟨by decide +kernel, by decide +kernel, by decide +kernel⟩, rfl⟩, ⟨fw_mem 431 (by decide +kernel) rfl, fw_mem 12 (by decide +kernel) rfl⟩, ⟨_, _, _, fw_cls4⟩, by decide⟩
theorem pl_X4_freeNameFor : plainName (fw_mN mX4_freeNameFor).cls = true ∧ (fw_mN mX4_freeNameFor).cls = fw_cn (fw_mO mX4_freeNameFor) := ⟨by decide +kernel, rfl⟩
def mX4_thingNamed : fw_M := (yX4_thingNamed, cX4_thingNamed, 4, (some .int), 4, 0, 0, 0, 0, 0)
set_option maxRecDepth 20000 in
theorem mv_X4_thingNamed : fw_mv mX4_thingNamed 2 := ⟨⟨fw_mem 436 rfl rfl, fw_mem 68 (by decide +kernel) rfl, ⟨by decide +kernel, by decide +kernel, by decide +kernel⟩, rfl⟩, ⟨fw_mem 434 (by decide +kernel) rfl, fw_mem 435 (by decide +kernel) rfl⟩, ⟨_, _, _, fw_cls4⟩, by decide⟩
theorem pl_X4_thingNamed : plainName (fw_mN mX4_thingNamed).cls = true ∧ (fw_mN mX4_thingNamed).cls = fw_cn (fw_mO mX4_thingNamed) := ⟨by decide +kernel, rfl⟩
def mX4_isThere : fw_M := (yX4_isThere, cX4_isThere, 2, (some .boolean), 4, 0, 0, 0, 0, 0)
set_option maxRecDepth 20000 in
theorem mv_X4_isThere : fw_mv mX4_isThere 1 := ⟨⟨fw_mem 489 rfl rfl, fw_mem 68 (by decide +kernel) rfl, ⟨by decide +kernel, by decide +kernel, by decide +kernel⟩, rfl⟩, ⟨fw_mem 487 (by decide +kernel) rfl, fw_mem 488 (by decide +kernel) rfl⟩, ⟨_, _, _, fw_cls4⟩, by decide⟩
theorem pl_X4_isThere : plainName (fw_mN mX4_isThere).cls = true ∧ (fw_mN mX4_isThere).cls = fw_cn (fw_mO mX4_isThere) := ⟨by decide +kernel, rfl⟩
def mX4_isFile : fw_M := (yX4_isFile, cX4_isFile, 2, (some .boolean), 4, 0, 0, 0, 0, 0)
set_option maxRecDepth 20000 in
theorem mv_X4_isFile : fw_mv mX4_isFile 1 := ⟨⟨fw_mem 497 rfl rfl, fw_mem 68 (by decide +kernel) rfl, ⟨by decide +kernel, by decide +kernel, by decide +kernel⟩, rfl⟩, ⟨fw_mem 495 (by decide +kernel) rfl, fw_mem 496 (by decide +kernel) rfl⟩, ⟨_, _, _, fw_cls4⟩, by decide⟩
theorem pl_X4_isFile : plainName (fw_mN mX4_isFile).cls = true ∧ (fw_mN mX4_isFile).cls = fw_cn (fw_mO mX4_isFile) := ⟨by decide +kernel, rfl⟩
def mX4_isFolder : fw_M := (yX4_isFolder, cX4_isFolder, 2, (some .boolean), 4, 0, 0, 0, 0, 0)
set_option maxRecDepth 20000 in
theorem mv_X4_isFolder : fw_mv mX4_isFolder 1 := ⟨⟨fw_mem 384 rfl rfl, fw_mem 68 (by decide +kernel) rfl, ⟨by decide +kernel, by decide +kernel, by decide +kernel⟩, rfl⟩, ⟨fw_mem 382 (by decide +kernel) rfl, fw_mem 383 (by decide +kernel) rfl⟩, ⟨_, _, _, fw_cls4⟩, by decide⟩
theorem pl_X4_isFolder : plainName (fw_mN mX4_isFolder).cls = true ∧ (fw_mN mX4_isFolder).cls = fw_cn (fw_mO mX4_isFolder) := ⟨by decide +kernel, rfl⟩
def mX4_mayMove : fw_M := (yX4_mayMove, cX4_mayMove, 3, (some .boolean), 4, 0, 1, 24, 0, 0)
set_option maxRecDepth 20000 in
theorem mv_X4_mayMove : fw_mv mX4_mayMove 2 := ⟨⟨fw_mem 392 rfl rfl, fw_mem 68 (by decide +kernel) rfl, ⟨by decide +kernel, by decide +kernel, by decide +kernel⟩, rfl⟩, ⟨fw_mem 390 (by decide +kernel) rfl, fw_mem 391 (by decide +kernel) rfl⟩, ⟨_, _, _, fw_cls4⟩, by decide⟩
theorem pl_X4_mayMove : plainName (fw_mN mX4_mayMove).cls = true ∧ (fw_mN mX4_mayMove).cls = fw_cn (fw_mO mX4_mayMove) := ⟨by decide +kernel, rfl⟩
def mX4_isWithin : fw_M := (yX4_isWithin, cX4_isWithin, 5, (some .boolean), 4, 0, 0, 0, 0, 0)
set_option maxRecDepth 20000 in
theorem mv_X4_isWithin : fw_mv mX4_isWithin 2 := ⟨⟨fw_mem 396 rfl rfl, fw_mem 68 (by decide +kernel) rfl, ⟨by decide +kernel, by decide +kernel, by decide +kernel⟩, rfl⟩, ⟨fw_mem 394 (by decide +kernel) rfl, fw_mem 395 (by decide +kernel) rfl⟩, ⟨_, _, _, fw_cls4⟩, by decide⟩
theorem pl_X4_isWithin : plainName (fw_mN mX4_isWithin).cls = true ∧ (fw_mN mX4_isWithin).cls = fw_cn (fw_mO mX4_isWithin) := ⟨by decide +kernel, rfl⟩
def mX4_rowOf : fw_M := (yX4_rowOf, cX4_rowOf, 3, (some (.object "FolderRows$Change")), 4, 0, 0, 0, 0, 0)
set_option maxRecDepth 20000 in
theorem mv_X4_rowOf : fw_mv mX4_rowOf 2 := ⟨⟨fw_mem 412 rfl rfl, fw_mem 68 (by decide +kernel) rfl, ⟨by decide +kernel, by decide +kernel, by decide +kernel⟩, rfl⟩, ⟨fw_mem 410 (by decide +kernel) rfl, fw_mem 411 (by decide +kernel) rfl⟩, ⟨_, _, _, fw_cls4⟩, by decide⟩
theorem pl_X4_rowOf : plainName (fw_mN mX4_rowOf).cls = true ∧ (fw_mN mX4_rowOf).cls = fw_cn (fw_mO mX4_rowOf) := ⟨by decide +kernel, rfl⟩
def mX4_childCount : fw_M := (yX4_childCount, cX4_childCount, 4, (some .int), 4, 0, 0, 0, 0, 0)
set_option maxRecDepth 20000 in
theorem mv_X4_childCount : fw_mv mX4_childCount 1 := ⟨⟨fw_mem 590 rfl rfl, fw_mem 68 (by decide +kernel) rfl, ⟨by decide +kernel, by decide +kernel, by decide +kernel⟩, rfl⟩, ⟨fw_mem 588 (by decide +kernel) rfl, fw_mem 589 (by decide +kernel) rfl⟩, ⟨_, _, _, fw_cls4⟩, by decide⟩
theorem pl_X4_childCount : plainName (fw_mN mX4_childCount).cls = true ∧ (fw_mN mX4_childCount).cls = fw_cn (fw_mO mX4_childCount) := ⟨by decide +kernel, rfl⟩
def mX4_byteCount : fw_M := (yX4_byteCount, cX4_byteCount, 4, (some .int), 4, 0, 1, 22, 0, 0)
set_option maxRecDepth 20000 in
theorem mv_X4_byteCount : fw_mv mX4_byteCount 1 := ⟨⟨fw_mem 581 rfl rfl, fw_mem 68 (by decide +kernel) rfl, ⟨by decide +kernel, by decide +kernel, by decide +kernel⟩, rfl⟩, ⟨fw_mem 579 (by decide +kernel) rfl, fw_mem 580 (by decide +kernel) rfl⟩, ⟨_, _, _, fw_cls4⟩, by decide⟩
theorem pl_X4_byteCount : plainName (fw_mN mX4_byteCount).cls = true ∧ (fw_mN mX4_byteCount).cls = fw_cn (fw_mO mX4_byteCount) := ⟨by decide +kernel, rfl⟩
def mX4_byteTotal : fw_M := (yX4_byteTotal, cX4_byteTotal, 6, (some .int), 4, 0, 1, 23, 0, 0)
set_option maxRecDepth 20000 in
theorem mv_X4_byteTotal : fw_mv mX4_byteTotal 1 := ⟨⟨fw_mem 622 rfl rfl, fw_mem 68 (by decide +kernel) rfl, ⟨by decide +kernel, by decide +kernel, by decide +kernel⟩, rfl⟩, ⟨fw_mem 620 (by decide +kernel) rfl, fw_mem 621 (by decide +kernel) rfl⟩, ⟨_, _, _, fw_cls4⟩, by decide⟩
theorem pl_X4_byteTotal : plainName (fw_mN mX4_byteTotal).cls = true ∧ (fw_mN mX4_byteTotal).cls = fw_cn (fw_mO mX4_byteTotal) := ⟨by decide +kernel, rfl⟩
def mX5_init : fw_M := (yX5_init, cX5_init, 2, none, 5, 0, 3, 61, 202, 4643)
set_option maxRecDepth 20000 in
theorem mv_X5_init : fw_mw mX5_init 0 ∧ ((fw_mN mX5_init).name = "<init>" ∧ fw_mT mX5_init = none ∧ Cond.instanceMethod (fw_mN mX5_init) ∈ fw_tbl) := ⟨⟨fw_mem 78 rfl rfl, fw_mem 65 (by decide +kernel) rfl, ⟨by decide +kernel, by decide +kernel, by decide +kernel⟩, rfl⟩, rfl, rfl, fw_mem 77 (by decide +kernel) rfl⟩
theorem pl_X5_init : plainName (fw_mN mX5_init).cls = true ∧ (fw_mN mX5_init).cls = fw_cn (fw_mO mX5_init) := ⟨by decide +kernel, rfl⟩
def mX5_machines : fw_M := (yX5_machines, cX5_machines, 3, (some .int), 5, 0, 2, 43, 0, 0)
set_option maxRecDepth 20000 in
theorem mv_X5_machines : fw_mv mX5_machines 1 := ⟨⟨fw_mem 323 rfl rfl, fw_mem 65 (by decide +kernel) rfl, ⟨by decide +kernel, by decide +kernel, by decide +kernel⟩, rfl⟩, ⟨fw_mem 321 (by decide +kernel) rfl, fw_mem 322 (by decide +kernel) rfl⟩, ⟨_, _, _, fw_cls5⟩, by decide⟩
theorem pl_X5_machines : plainName (fw_mN mX5_machines).cls = true ∧ (fw_mN mX5_machines).cls = fw_cn (fw_mO mX5_machines) := ⟨by decide +kernel, rfl⟩
def mX5_rules : fw_M := (yX5_rules, cX5_rules, 3, (some .int), 5, 0, 0, 0, 0, 0)
set_option maxRecDepth 20000 in
theorem mv_X5_rules : fw_mv mX5_rules 1 := ⟨⟨fw_mem 327 rfl rfl, fw_mem 65 (by decide +kernel) rfl, ⟨by decide +kernel, by decide +kernel, by decide +kernel⟩, rfl⟩, ⟨fw_mem 325 (by decide +kernel) rfl, fw_mem 326 (by decide +kernel) rfl⟩, ⟨_, _, _, fw_cls5⟩, by decide⟩
theorem pl_X5_rules : plainName (fw_mN mX5_rules).cls = true ∧ (fw_mN mX5_rules).cls = fw_cn (fw_mO mX5_rules) := ⟨by decide +kernel, rfl⟩
def mX5_make : fw_M := (yX5_make, cX5_make, 7, (some .int), 5, 0, 6, 139, 0, 0)
set_option maxRecDepth 20000 in
theorem mv_X5_make : fw_mv mX5_make 4 := ⟨⟨fw_mem 331 rfl rfl, fw_mem 65 (by decide +kernel) rfl, ⟨by decide +kernel, by decide +kernel, by decide +kernel⟩, rfl⟩, ⟨fw_mem 329 (by decide +kernel) rfl, fw_mem 330 (by decide +kernel) rfl⟩, ⟨_, _, _, fw_cls5⟩, by decide⟩
theorem pl_X5_make : plainName (fw_mN mX5_make).cls = true ∧ (fw_mN mX5_make).cls = fw_cn (fw_mO mX5_make) := ⟨by decide +kernel, rfl⟩
def mX5_move : fw_M := (yX5_move, cX5_move, 6, (some .int), 5, 0, 6, 139, 0, 0)
set_option maxRecDepth 20000 in
theorem mv_X5_move : fw_mv mX5_move 4 := ⟨⟨fw_mem 480 rfl rfl, fw_mem 65 (by decide +kernel) rfl, ⟨by decide +kernel, by decide +kernel, by decide +kernel⟩, rfl⟩, ⟨fw_mem 478 (by decide +kernel) rfl, fw_mem 479 (by decide +kernel) rfl⟩, ⟨_, _, _, fw_cls5⟩, by decide⟩
theorem pl_X5_move : plainName (fw_mN mX5_move).cls = true ∧ (fw_mN mX5_move).cls = fw_cn (fw_mO mX5_move) := ⟨by decide +kernel, rfl⟩
def mX5_gone : fw_M := (yX5_gone, cX5_gone, 3, (some .int), 5, 0, 6, 139, 0, 0)
set_option maxRecDepth 20000 in
theorem mv_X5_gone : fw_mv mX5_gone 2 := ⟨⟨fw_mem 485 rfl rfl, fw_mem 65 (by decide +kernel) rfl, ⟨by decide +kernel, by decide +kernel, by decide +kernel⟩, rfl⟩, ⟨fw_mem 483 (by decide +kernel) rfl, fw_mem 484 (by decide +kernel) rfl⟩, ⟨_, _, _, fw_cls5⟩, by decide⟩
theorem pl_X5_gone : plainName (fw_mN mX5_gone).cls = true ∧ (fw_mN mX5_gone).cls = fw_cn (fw_mO mX5_gone) := ⟨by decide +kernel, rfl⟩
def mX5_write : fw_M := (yX5_write, cX5_write, 7, (some .int), 5, 0, 6, 139, 0, 0)
set_option maxRecDepth 20000 in
theorem mv_X5_write : fw_mv mX5_write 4 := ⟨⟨fw_mem 493 rfl rfl, fw_mem 65 (by decide +kernel) rfl, ⟨by decide +kernel, by decide +kernel, by decide +kernel⟩, rfl⟩, ⟨fw_mem 491 (by decide +kernel) rfl, fw_mem 492 (by decide +kernel) rfl⟩, ⟨_, _, _, fw_cls5⟩, by decide⟩
theorem pl_X5_write : plainName (fw_mN mX5_write).cls = true ∧ (fw_mN mX5_write).cls = fw_cn (fw_mO mX5_write) := ⟨by decide +kernel, rfl⟩
def mX5_send : fw_M := (yX5_send, cX5_send, 3, (some .int), 5, 0, 4, 94, 0, 0)
set_option maxRecDepth 20000 in
theorem mv_X5_send : fw_mv mX5_send 2 := ⟨⟨fw_mem 532 rfl rfl, fw_mem 65 (by decide +kernel) rfl, ⟨by decide +kernel, by decide +kernel, by decide +kernel⟩, rfl⟩, ⟨fw_mem 530 (by decide +kernel) rfl, fw_mem 531 (by decide +kernel) rfl⟩, ⟨_, _, _, fw_cls5⟩, by decide⟩
theorem pl_X5_send : plainName (fw_mN mX5_send).cls = true ∧ (fw_mN mX5_send).cls = fw_cn (fw_mO mX5_send) := ⟨by decide +kernel, rfl⟩
def mX5_sendSome : fw_M := (yX5_sendSome, cX5_sendSome, 4, (some .int), 5, 0, 4, 94, 0, 0)
set_option maxRecDepth 20000 in
theorem mv_X5_sendSome : fw_mv mX5_sendSome 3 := ⟨⟨fw_mem 540 rfl rfl, fw_mem 65 (by decide +kernel) rfl, ⟨by decide +kernel, by decide +kernel, by decide +kernel⟩, rfl⟩, ⟨fw_mem 538 (by decide +kernel) rfl, fw_mem 539 (by decide +kernel) rfl⟩, ⟨_, _, _, fw_cls5⟩, by decide⟩
theorem pl_X5_sendSome : plainName (fw_mN mX5_sendSome).cls = true ∧ (fw_mN mX5_sendSome).cls = fw_cn (fw_mO mX5_sendSome) := ⟨by decide +kernel, rfl⟩
def mX5_change : fw_M := (yX5_change, cX5_change, 5, (some .int), 5, 0, 1, 22, 0, 0)
set_option maxRecDepth 20000 in
theorem mv_X5_change : fw_mv mX5_change 3 := ⟨⟨fw_mem 544 rfl rfl, fw_mem 65 (by decide +kernel) rfl, ⟨by decide +kernel, by decide +kernel, by decide +kernel⟩, rfl⟩, ⟨fw_mem 542 (by decide +kernel) rfl, fw_mem 543 (by decide +kernel) rfl⟩, ⟨_, _, _, fw_cls5⟩, by decide⟩
theorem pl_X5_change : plainName (fw_mN mX5_change).cls = true ∧ (fw_mN mX5_change).cls = fw_cn (fw_mO mX5_change) := ⟨by decide +kernel, rfl⟩
def mX5_thing : fw_M := (yX5_thing, cX5_thing, 5, (some .int), 5, 0, 5, 118, 0, 0)
set_option maxRecDepth 20000 in
theorem mv_X5_thing : fw_mv mX5_thing 4 := ⟨⟨fw_mem 554 rfl rfl, fw_mem 65 (by decide +kernel) rfl, ⟨by decide +kernel, by decide +kernel, by decide +kernel⟩, rfl⟩, ⟨fw_mem 552 (by decide +kernel) rfl, fw_mem 553 (by decide +kernel) rfl⟩, ⟨_, _, _, fw_cls5⟩, by decide⟩
theorem pl_X5_thing : plainName (fw_mN mX5_thing).cls = true ∧ (fw_mN mX5_thing).cls = fw_cn (fw_mO mX5_thing) := ⟨by decide +kernel, rfl⟩
def mX5_bytes : fw_M := (yX5_bytes, cX5_bytes, 6, (some .int), 5, 0, 6, 139, 0, 0)
set_option maxRecDepth 20000 in
theorem mv_X5_bytes : fw_mv mX5_bytes 4 := ⟨⟨fw_mem 562 rfl rfl, fw_mem 65 (by decide +kernel) rfl, ⟨by decide +kernel, by decide +kernel, by decide +kernel⟩, rfl⟩, ⟨fw_mem 560 (by decide +kernel) rfl, fw_mem 561 (by decide +kernel) rfl⟩, ⟨_, _, _, fw_cls5⟩, by decide⟩
theorem pl_X5_bytes : plainName (fw_mN mX5_bytes).cls = true ∧ (fw_mN mX5_bytes).cls = fw_cn (fw_mO mX5_bytes) := ⟨by decide +kernel, rfl⟩
def mX5_bulk : fw_M := (yX5_bulk, cX5_bulk, 4, (some .int), 5, 0, 6, 139, 0, 0)
set_option maxRecDepth 20000 in
theorem mv_X5_bulk : fw_mv mX5_bulk 3 := ⟨⟨fw_mem 568 rfl rfl, fw_mem 65 (by decide +kernel) rfl, ⟨by decide +kernel, by decide +kernel, by decide +kernel⟩, rfl⟩, ⟨fw_mem 566 (by decide +kernel) rfl, fw_mem 567 (by decide +kernel) rfl⟩, ⟨_, _, _, fw_cls5⟩, by decide⟩
theorem pl_X5_bulk : plainName (fw_mN mX5_bulk).cls = true ∧ (fw_mN mX5_bulk).cls = fw_cn (fw_mO mX5_bulk) := ⟨by decide +kernel, rfl⟩
def mX5_things : fw_M := (yX5_things, cX5_things, 5, (some .int), 5, 0, 5, 118, 0, 0)
set_option maxRecDepth 20000 in
theorem mv_X5_things : fw_mv mX5_things 2 := ⟨⟨fw_mem 609 rfl rfl, fw_mem 65 (by decide +kernel) rfl, ⟨by decide +kernel, by decide +kernel, by decide +kernel⟩, rfl⟩, ⟨fw_mem 607 (by decide +kernel) rfl, fw_mem 608 (by decide +kernel) rfl⟩, ⟨_, _, _, fw_cls5⟩, by decide⟩
theorem pl_X5_things : plainName (fw_mN mX5_things).cls = true ∧ (fw_mN mX5_things).cls = fw_cn (fw_mO mX5_things) := ⟨by decide +kernel, rfl⟩
def mX5_find : fw_M := (yX5_find, cX5_find, 4, (some .int), 5, 0, 6, 139, 0, 0)
set_option maxRecDepth 20000 in
theorem mv_X5_find : fw_mv mX5_find 3 := ⟨⟨fw_mem 613 rfl rfl, fw_mem 65 (by decide +kernel) rfl, ⟨by decide +kernel, by decide +kernel, by decide +kernel⟩, rfl⟩, ⟨fw_mem 611 (by decide +kernel) rfl, fw_mem 612 (by decide +kernel) rfl⟩, ⟨_, _, _, fw_cls5⟩, by decide⟩
theorem pl_X5_find : plainName (fw_mN mX5_find).cls = true ∧ (fw_mN mX5_find).cls = fw_cn (fw_mO mX5_find) := ⟨by decide +kernel, rfl⟩
def mX5_sum : fw_M := (yX5_sum, cX5_sum, 6, (some .int), 5, 0, 5, 118, 0, 0)
set_option maxRecDepth 20000 in
theorem mv_X5_sum : fw_mv mX5_sum 2 := ⟨⟨fw_mem 618 rfl rfl, fw_mem 65 (by decide +kernel) rfl, ⟨by decide +kernel, by decide +kernel, by decide +kernel⟩, rfl⟩, ⟨fw_mem 616 (by decide +kernel) rfl, fw_mem 617 (by decide +kernel) rfl⟩, ⟨_, _, _, fw_cls5⟩, by decide⟩
theorem pl_X5_sum : plainName (fw_mN mX5_sum).cls = true ∧ (fw_mN mX5_sum).cls = fw_cn (fw_mO mX5_sum) := ⟨by decide +kernel, rfl⟩
def mX5_differ : fw_M := (yX5_differ, cX5_differ, 5, (some .int), 5, 0, 2, 45, 0, 0)
set_option maxRecDepth 20000 in
theorem mv_X5_differ : fw_mv mX5_differ 2 := ⟨⟨fw_mem 628 rfl rfl, fw_mem 65 (by decide +kernel) rfl, ⟨by decide +kernel, by decide +kernel, by decide +kernel⟩, rfl⟩, ⟨fw_mem 626 (by decide +kernel) rfl, fw_mem 627 (by decide +kernel) rfl⟩, ⟨_, _, _, fw_cls5⟩, by decide⟩
theorem pl_X5_differ : plainName (fw_mN mX5_differ).cls = true ∧ (fw_mN mX5_differ).cls = fw_cn (fw_mO mX5_differ) := ⟨by decide +kernel, rfl⟩
def mX5_apart : fw_M := (yX5_apart, cX5_apart, 3, (some .int), 5, 0, 3, 67, 0, 0)
set_option maxRecDepth 20000 in
theorem mv_X5_apart : fw_mv mX5_apart 2 := ⟨⟨fw_mem 636 rfl rfl, fw_mem 65 (by decide +kernel) rfl, ⟨by decide +kernel, by decide +kernel, by decide +kernel⟩, rfl⟩, ⟨fw_mem 634 (by decide +kernel) rfl, fw_mem 635 (by decide +kernel) rfl⟩, ⟨_, _, _, fw_cls5⟩, by decide⟩
theorem pl_X5_apart : plainName (fw_mN mX5_apart).cls = true ∧ (fw_mN mX5_apart).cls = fw_cn (fw_mO mX5_apart) := ⟨by decide +kernel, rfl⟩
def mX5_let : fw_M := (yX5_let, cX5_let, 2, (some .int), 5, 0, 3, 67, 0, 0)
set_option maxRecDepth 20000 in
theorem mv_X5_let : fw_mv mX5_let 1 := ⟨⟨fw_mem 644 rfl rfl, fw_mem 65 (by decide +kernel) rfl, ⟨by decide +kernel, by decide +kernel, by decide +kernel⟩, rfl⟩, ⟨fw_mem 642 (by decide +kernel) rfl, fw_mem 643 (by decide +kernel) rfl⟩, ⟨_, _, _, fw_cls5⟩, by decide⟩
theorem pl_X5_let : plainName (fw_mN mX5_let).cls = true ∧ (fw_mN mX5_let).cls = fw_cn (fw_mO mX5_let) := ⟨by decide +kernel, rfl⟩
def mX5_taken : fw_M := (yX5_taken, cX5_taken, 4, (some .int), 5, 0, 2, 45, 0, 0)
set_option maxRecDepth 20000 in
theorem mv_X5_taken : fw_mv mX5_taken 1 := ⟨⟨fw_mem 648 rfl rfl, fw_mem 65 (by decide +kernel) rfl, ⟨by decide +kernel, by decide +kernel, by decide +kernel⟩, rfl⟩, ⟨fw_mem 646 (by decide +kernel) rfl, fw_mem 647 (by decide +kernel) rfl⟩, ⟨_, _, _, fw_cls5⟩, by decide⟩
theorem pl_X5_taken : plainName (fw_mN mX5_taken).cls = true ∧ (fw_mN mX5_taken).cls = fw_cn (fw_mO mX5_taken) := ⟨by decide +kernel, rfl⟩
def mX5_room : fw_M := (yX5_room, cX5_room, 4, (some .int), 5, 0, 1, 21, 0, 0)
set_option maxRecDepth 20000 in
theorem mv_X5_room : fw_mv mX5_room 2 := ⟨⟨fw_mem 653 rfl rfl, fw_mem 65 (by decide +kernel) rfl, ⟨by decide +kernel, by decide +kernel, by decide +kernel⟩, rfl⟩, ⟨fw_mem 651 (by decide +kernel) rfl, fw_mem 652 (by decide +kernel) rfl⟩, ⟨_, _, _, fw_cls5⟩, by decide⟩
theorem pl_X5_room : plainName (fw_mN mX5_room).cls = true ∧ (fw_mN mX5_room).cls = fw_cn (fw_mO mX5_room) := ⟨by decide +kernel, rfl⟩
def mX5_pieces : fw_M := (yX5_pieces, cX5_pieces, 4, (some .int), 5, 0, 6, 143, 0, 0)
set_option maxRecDepth 20000 in
theorem mv_X5_pieces : fw_mv mX5_pieces 3 := ⟨⟨fw_mem 657 rfl rfl, fw_mem 65 (by decide +kernel) rfl, ⟨by decide +kernel, by decide +kernel, by decide +kernel⟩, rfl⟩, ⟨fw_mem 655 (by decide +kernel) rfl, fw_mem 656 (by decide +kernel) rfl⟩, ⟨_, _, _, fw_cls5⟩, by decide⟩
theorem pl_X5_pieces : plainName (fw_mN mX5_pieces).cls = true ∧ (fw_mN mX5_pieces).cls = fw_cn (fw_mO mX5_pieces) := ⟨by decide +kernel, rfl⟩
def mX5_fetch : fw_M := (yX5_fetch, cX5_fetch, 3, (some .int), 5, 0, 6, 143, 0, 0)
set_option maxRecDepth 20000 in
theorem mv_X5_fetch : fw_mv mX5_fetch 2 := ⟨⟨fw_mem 677 rfl rfl, fw_mem 65 (by decide +kernel) rfl, ⟨by decide +kernel, by decide +kernel, by decide +kernel⟩, rfl⟩, ⟨fw_mem 675 (by decide +kernel) rfl, fw_mem 676 (by decide +kernel) rfl⟩, ⟨_, _, _, fw_cls5⟩, by decide⟩
theorem pl_X5_fetch : plainName (fw_mN mX5_fetch).cls = true ∧ (fw_mN mX5_fetch).cls = fw_cn (fw_mO mX5_fetch) := ⟨by decide +kernel, rfl⟩
def mX5_away : fw_M := (yX5_away, cX5_away, 3, (some .int), 5, 0, 6, 144, 0, 0)
set_option maxRecDepth 20000 in
theorem mv_X5_away : fw_mv mX5_away 2 := ⟨⟨fw_mem 686 rfl rfl, fw_mem 65 (by decide +kernel) rfl, ⟨by decide +kernel, by decide +kernel, by decide +kernel⟩, rfl⟩, ⟨fw_mem 684 (by decide +kernel) rfl, fw_mem 685 (by decide +kernel) rfl⟩, ⟨_, _, _, fw_cls5⟩, by decide⟩
theorem pl_X5_away : plainName (fw_mN mX5_away).cls = true ∧ (fw_mN mX5_away).cls = fw_cn (fw_mO mX5_away) := ⟨by decide +kernel, rfl⟩
def mX5_night : fw_M := (yX5_night, cX5_night, 1, (some .int), 5, 0, 2, 61, 0, 0)
set_option maxRecDepth 20000 in
theorem mv_X5_night : fw_mv mX5_night 0 := ⟨⟨fw_mem 698 rfl rfl, fw_mem 65 (by decide +kernel) rfl, ⟨by decide +kernel, by decide +kernel, by decide +kernel⟩, rfl⟩, ⟨fw_mem 696 (by decide +kernel) rfl, fw_mem 697 (by decide +kernel) rfl⟩, ⟨_, _, _, fw_cls5⟩, by decide⟩
theorem pl_X5_night : plainName (fw_mN mX5_night).cls = true ∧ (fw_mN mX5_night).cls = fw_cn (fw_mO mX5_night) := ⟨by decide +kernel, rfl⟩
def mX5_share : fw_M := (yX5_share, cX5_share, 3, (some .int), 5, 0, 1, 23, 0, 0)
set_option maxRecDepth 20000 in
theorem mv_X5_share : fw_mv mX5_share 2 := ⟨⟨fw_mem 709 rfl rfl, fw_mem 65 (by decide +kernel) rfl, ⟨by decide +kernel, by decide +kernel, by decide +kernel⟩, rfl⟩, ⟨fw_mem 707 (by decide +kernel) rfl, fw_mem 708 (by decide +kernel) rfl⟩, ⟨_, _, _, fw_cls5⟩, by decide⟩
theorem pl_X5_share : plainName (fw_mN mX5_share).cls = true ∧ (fw_mN mX5_share).cls = fw_cn (fw_mO mX5_share) := ⟨by decide +kernel, rfl⟩
def mX5_take : fw_M := (yX5_take, cX5_take, 2, (some .int), 5, 0, 0, 0, 0, 0)
set_option maxRecDepth 20000 in
theorem mv_X5_take : fw_mv mX5_take 1 := ⟨⟨fw_mem 720 rfl rfl, fw_mem 65 (by decide +kernel) rfl, ⟨by decide +kernel, by decide +kernel, by decide +kernel⟩, rfl⟩, ⟨fw_mem 718 (by decide +kernel) rfl, fw_mem 719 (by decide +kernel) rfl⟩, ⟨_, _, _, fw_cls5⟩, by decide⟩
theorem pl_X5_take : plainName (fw_mN mX5_take).cls = true ∧ (fw_mN mX5_take).cls = fw_cn (fw_mO mX5_take) := ⟨by decide +kernel, rfl⟩
def mX5_could : fw_M := (yX5_could, cX5_could, 6, (some .int), 5, 0, 5, 118, 0, 0)
set_option maxRecDepth 20000 in
theorem mv_X5_could : fw_mv mX5_could 4 := ⟨⟨fw_mem 724 rfl rfl, fw_mem 65 (by decide +kernel) rfl, ⟨by decide +kernel, by decide +kernel, by decide +kernel⟩, rfl⟩, ⟨fw_mem 722 (by decide +kernel) rfl, fw_mem 723 (by decide +kernel) rfl⟩, ⟨_, _, _, fw_cls5⟩, by decide⟩
theorem pl_X5_could : plainName (fw_mN mX5_could).cls = true ∧ (fw_mN mX5_could).cls = fw_cn (fw_mO mX5_could) := ⟨by decide +kernel, rfl⟩
def mX5_odd : fw_M := (yX5_odd, cX5_odd, 6, (some .long), 5, 0, 2, 49, 0, 0)
set_option maxRecDepth 20000 in
theorem mv_X5_odd : fw_mv mX5_odd 3 := ⟨⟨fw_mem 733 rfl rfl, fw_mem 65 (by decide +kernel) rfl, ⟨by decide +kernel, by decide +kernel, by decide +kernel⟩, rfl⟩, ⟨fw_mem 731 (by decide +kernel) rfl, fw_mem 732 (by decide +kernel) rfl⟩, ⟨_, _, _, fw_cls5⟩, by decide⟩
theorem pl_X5_odd : plainName (fw_mN mX5_odd).cls = true ∧ (fw_mN mX5_odd).cls = fw_cn (fw_mO mX5_odd) := ⟨by decide +kernel, rfl⟩
def mX5_count : fw_M := (yX5_count, cX5_count, 2, (some .int), 5, 0, 2, 43, 0, 0)
set_option maxRecDepth 20000 in
theorem mv_X5_count : fw_mv mX5_count 1 := ⟨⟨fw_mem 752 rfl rfl, fw_mem 65 (by decide +kernel) rfl, ⟨by decide +kernel, by decide +kernel, by decide +kernel⟩, rfl⟩, ⟨fw_mem 750 (by decide +kernel) rfl, fw_mem 751 (by decide +kernel) rfl⟩, ⟨_, _, _, fw_cls5⟩, by decide⟩
theorem pl_X5_count : plainName (fw_mN mX5_count).cls = true ∧ (fw_mN mX5_count).cls = fw_cn (fw_mO mX5_count) := ⟨by decide +kernel, rfl⟩
def mX5_trace : fw_M := (yX5_trace, cX5_trace, 1, (some .long), 5, 0, 0, 0, 0, 0)
set_option maxRecDepth 20000 in
theorem mv_X5_trace : fw_mv mX5_trace 0 := ⟨⟨fw_mem 764 rfl rfl, fw_mem 65 (by decide +kernel) rfl, ⟨by decide +kernel, by decide +kernel, by decide +kernel⟩, rfl⟩, ⟨fw_mem 762 (by decide +kernel) rfl, fw_mem 763 (by decide +kernel) rfl⟩, ⟨_, _, _, fw_cls5⟩, by decide⟩
theorem pl_X5_trace : plainName (fw_mN mX5_trace).cls = true ∧ (fw_mN mX5_trace).cls = fw_cn (fw_mO mX5_trace) := ⟨by decide +kernel, rfl⟩
def mX5_beginAnew : fw_M := (yX5_beginAnew, cX5_beginAnew, 3, none, 5, 0, 1, 21, 0, 0)
set_option maxRecDepth 20000 in
theorem mv_X5_beginAnew : fw_mv mX5_beginAnew 1 := ⟨⟨fw_mem 280 rfl rfl, fw_mem 65 (by decide +kernel) rfl, ⟨by decide +kernel, by decide +kernel, by decide +kernel⟩, rfl⟩, ⟨fw_mem 279 (by decide +kernel) rfl, fw_mem 0 (by decide +kernel) rfl⟩, ⟨_, _, _, fw_cls5⟩, by decide⟩
theorem pl_X5_beginAnew : plainName (fw_mN mX5_beginAnew).cls = true ∧ (fw_mN mX5_beginAnew).cls = fw_cn (fw_mO mX5_beginAnew) := ⟨by decide +kernel, rfl⟩
def mX5_isMachine : fw_M := (yX5_isMachine, cX5_isMachine, 2, (some .boolean), 5, 0, 0, 0, 0, 0)
set_option maxRecDepth 20000 in
theorem mv_X5_isMachine : fw_mv mX5_isMachine 1 := ⟨⟨fw_mem 335 rfl rfl, fw_mem 65 (by decide +kernel) rfl, ⟨by decide +kernel, by decide +kernel, by decide +kernel⟩, rfl⟩, ⟨fw_mem 334 (by decide +kernel) rfl, fw_mem 1 (by decide +kernel) rfl⟩, ⟨_, _, _, fw_cls5⟩, by decide⟩
theorem pl_X5_isMachine : plainName (fw_mN mX5_isMachine).cls = true ∧ (fw_mN mX5_isMachine).cls = fw_cn (fw_mO mX5_isMachine) := ⟨by decide +kernel, rfl⟩
def mX5_isThing : fw_M := (yX5_isThing, cX5_isThing, 1, (some .boolean), 5, 0, 0, 0, 0, 0)
set_option maxRecDepth 20000 in
theorem mv_X5_isThing : fw_mt mX5_isThing 1 := ⟨⟨fw_mem 338 rfl rfl, fw_mem 65 (by decide +kernel) rfl, ⟨by decide +kernel, by decide +kernel, by decide +kernel⟩, rfl⟩, fw_mem 337 (by decide +kernel) rfl⟩
theorem pl_X5_isThing : plainName (fw_mN mX5_isThing).cls = true ∧ (fw_mN mX5_isThing).cls = fw_cn (fw_mO mX5_isThing) := ⟨by decide +kernel, rfl⟩
def mX5_isOwnName : fw_M := (yX5_isOwnName, cX5_isOwnName, 1, (some .boolean), 5, 0, 0, 0, 0, 0)
set_option maxRecDepth 20000 in
theorem mv_X5_isOwnName : fw_mt mX5_isOwnName 1 := ⟨⟨fw_mem 341 rfl rfl, fw_mem 65 (by decide +kernel) rfl, ⟨by decide +kernel, by decide +kernel, by decide +kernel⟩, rfl⟩, fw_mem 340 (by decide +kernel) rfl⟩
theorem pl_X5_isOwnName : plainName (fw_mN mX5_isOwnName).cls = true ∧ (fw_mN mX5_isOwnName).cls = fw_cn (fw_mO mX5_isOwnName) := ⟨by decide +kernel, rfl⟩
def mX5_isPerson : fw_M := (yX5_isPerson, cX5_isPerson, 1, (some .boolean), 5, 0, 0, 0, 0, 0)
set_option maxRecDepth 20000 in
theorem mv_X5_isPerson : fw_mt mX5_isPerson 1 := ⟨⟨fw_mem 712 rfl rfl, fw_mem 65 (by decide +kernel) rfl, ⟨by decide +kernel, by decide +kernel, by decide +kernel⟩, rfl⟩, fw_mem 711 (by decide +kernel) rfl⟩
theorem pl_X5_isPerson : plainName (fw_mN mX5_isPerson).cls = true ∧ (fw_mN mX5_isPerson).cls = fw_cn (fw_mO mX5_isPerson) := ⟨by decide +kernel, rfl⟩
def mX5_isDay : fw_M := (yX5_isDay, cX5_isDay, 2, (some .boolean), 5, 0, 0, 0, 0, 0)
set_option maxRecDepth 20000 in
theorem mv_X5_isDay : fw_mv mX5_isDay 1 := ⟨⟨fw_mem 558 rfl rfl, fw_mem 65 (by decide +kernel) rfl, ⟨by decide +kernel, by decide +kernel, by decide +kernel⟩, rfl⟩, ⟨fw_mem 557 (by decide +kernel) rfl, fw_mem 19 (by decide +kernel) rfl⟩, ⟨_, _, _, fw_cls5⟩, by decide⟩
theorem pl_X5_isDay : plainName (fw_mN mX5_isDay).cls = true ∧ (fw_mN mX5_isDay).cls = fw_cn (fw_mO mX5_isDay) := ⟨by decide +kernel, rfl⟩
def mX5_growNow : fw_M := (yX5_growNow, cX5_growNow, 2, none, 5, 0, 5, 118, 0, 0)
set_option maxRecDepth 20000 in
theorem mv_X5_growNow : fw_mv mX5_growNow 1 := ⟨⟨fw_mem 345 rfl rfl, fw_mem 65 (by decide +kernel) rfl, ⟨by decide +kernel, by decide +kernel, by decide +kernel⟩, rfl⟩, ⟨fw_mem 344 (by decide +kernel) rfl, fw_mem 2 (by decide +kernel) rfl⟩, ⟨_, _, _, fw_cls5⟩, by decide⟩
theorem pl_X5_growNow : plainName (fw_mN mX5_growNow).cls = true ∧ (fw_mN mX5_growNow).cls = fw_cn (fw_mO mX5_growNow) := ⟨by decide +kernel, rfl⟩
def mX5_byteOf : fw_M := (yX5_byteOf, cX5_byteOf, 4, (some .int), 5, 0, 0, 0, 0, 0)
set_option maxRecDepth 20000 in
theorem mv_X5_byteOf : fw_mt mX5_byteOf 3 := ⟨⟨fw_mem 504 rfl rfl, fw_mem 65 (by decide +kernel) rfl, ⟨by decide +kernel, by decide +kernel, by decide +kernel⟩, rfl⟩, fw_mem 503 (by decide +kernel) rfl⟩
theorem pl_X5_byteOf : plainName (fw_mN mX5_byteOf).cls = true ∧ (fw_mN mX5_byteOf).cls = fw_cn (fw_mO mX5_byteOf) := ⟨by decide +kernel, rfl⟩
def mX5_bulkAsThing : fw_M := (yX5_bulkAsThing, cX5_bulkAsThing, 2, (some .int), 5, 0, 0, 0, 0, 0)
set_option maxRecDepth 20000 in
theorem mv_X5_bulkAsThing : fw_mv mX5_bulkAsThing 1 := ⟨⟨fw_mem 577 rfl rfl, fw_mem 65 (by decide +kernel) rfl, ⟨by decide +kernel, by decide +kernel, by decide +kernel⟩, rfl⟩, ⟨fw_mem 576 (by decide +kernel) rfl, fw_mem 21 (by decide +kernel) rfl⟩, ⟨_, _, _, fw_cls5⟩, by decide⟩
theorem pl_X5_bulkAsThing : plainName (fw_mN mX5_bulkAsThing).cls = true ∧ (fw_mN mX5_bulkAsThing).cls = fw_cn (fw_mO mX5_bulkAsThing) := ⟨by decide +kernel, rfl⟩
def mX5_bulkAsFile : fw_M := (yX5_bulkAsFile, cX5_bulkAsFile, 2, (some .int), 5, 0, 2, 45, 0, 0)
set_option maxRecDepth 20000 in
theorem mv_X5_bulkAsFile : fw_mv mX5_bulkAsFile 1 := ⟨⟨fw_mem 572 rfl rfl, fw_mem 65 (by decide +kernel) rfl, ⟨by decide +kernel, by decide +kernel, by decide +kernel⟩, rfl⟩, ⟨fw_mem 571 (by decide +kernel) rfl, fw_mem 20 (by decide +kernel) rfl⟩, ⟨_, _, _, fw_cls5⟩, by decide⟩
theorem pl_X5_bulkAsFile : plainName (fw_mN mX5_bulkAsFile).cls = true ∧ (fw_mN mX5_bulkAsFile).cls = fw_cn (fw_mO mX5_bulkAsFile) := ⟨by decide +kernel, rfl⟩
def mX5_bulkAsFolder : fw_M := (yX5_bulkAsFolder, cX5_bulkAsFolder, 2, (some .int), 5, 0, 1, 23, 0, 0)
set_option maxRecDepth 20000 in
theorem mv_X5_bulkAsFolder : fw_mv mX5_bulkAsFolder 1 := ⟨⟨fw_mem 585 rfl rfl, fw_mem 65 (by decide +kernel) rfl, ⟨by decide +kernel, by decide +kernel, by decide +kernel⟩, rfl⟩, ⟨fw_mem 584 (by decide +kernel) rfl, fw_mem 22 (by decide +kernel) rfl⟩, ⟨_, _, _, fw_cls5⟩, by decide⟩
theorem pl_X5_bulkAsFolder : plainName (fw_mN mX5_bulkAsFolder).cls = true ∧ (fw_mN mX5_bulkAsFolder).cls = fw_cn (fw_mO mX5_bulkAsFolder) := ⟨by decide +kernel, rfl⟩
def mX5_bulkAsLink : fw_M := (yX5_bulkAsLink, cX5_bulkAsLink, 2, (some .int), 5, 0, 1, 21, 0, 0)
set_option maxRecDepth 20000 in
theorem mv_X5_bulkAsLink : fw_mv mX5_bulkAsLink 1 := ⟨⟨fw_mem 594 rfl rfl, fw_mem 65 (by decide +kernel) rfl, ⟨by decide +kernel, by decide +kernel, by decide +kernel⟩, rfl⟩, ⟨fw_mem 593 (by decide +kernel) rfl, fw_mem 23 (by decide +kernel) rfl⟩, ⟨_, _, _, fw_cls5⟩, by decide⟩
theorem pl_X5_bulkAsLink : plainName (fw_mN mX5_bulkAsLink).cls = true ∧ (fw_mN mX5_bulkAsLink).cls = fw_cn (fw_mO mX5_bulkAsLink) := ⟨by decide +kernel, rfl⟩
def mX5_bulkAsHeld : fw_M := (yX5_bulkAsHeld, cX5_bulkAsHeld, 2, (some .int), 5, 0, 3, 66, 0, 0)
set_option maxRecDepth 20000 in
theorem mv_X5_bulkAsHeld : fw_mv mX5_bulkAsHeld 1 := ⟨⟨fw_mem 599 rfl rfl, fw_mem 65 (by decide +kernel) rfl, ⟨by decide +kernel, by decide +kernel, by decide +kernel⟩, rfl⟩, ⟨fw_mem 598 (by decide +kernel) rfl, fw_mem 24 (by decide +kernel) rfl⟩, ⟨_, _, _, fw_cls5⟩, by decide⟩
theorem pl_X5_bulkAsHeld : plainName (fw_mN mX5_bulkAsHeld).cls = true ∧ (fw_mN mX5_bulkAsHeld).cls = fw_cn (fw_mO mX5_bulkAsHeld) := ⟨by decide +kernel, rfl⟩
def mX5_bulkAsClash : fw_M := (yX5_bulkAsClash, cX5_bulkAsClash, 2, (some .int), 5, 0, 3, 66, 0, 0)
set_option maxRecDepth 20000 in
theorem mv_X5_bulkAsClash : fw_mv mX5_bulkAsClash 1 := ⟨⟨fw_mem 604 rfl rfl, fw_mem 65 (by decide +kernel) rfl, ⟨by decide +kernel, by decide +kernel, by decide +kernel⟩, rfl⟩, ⟨fw_mem 603 (by decide +kernel) rfl, fw_mem 25 (by decide +kernel) rfl⟩, ⟨_, _, _, fw_cls5⟩, by decide⟩
theorem pl_X5_bulkAsClash : plainName (fw_mN mX5_bulkAsClash).cls = true ∧ (fw_mN mX5_bulkAsClash).cls = fw_cn (fw_mO mX5_bulkAsClash) := ⟨by decide +kernel, rfl⟩
def mX5_wantPiecesOf : fw_M := (yX5_wantPiecesOf, cX5_wantPiecesOf, 2, none, 5, 0, 5, 122, 0, 0)
set_option maxRecDepth 20000 in
theorem mv_X5_wantPiecesOf : fw_mv mX5_wantPiecesOf 1 := ⟨⟨fw_mem 661 rfl rfl, fw_mem 65 (by decide +kernel) rfl, ⟨by decide +kernel, by decide +kernel, by decide +kernel⟩, rfl⟩, ⟨fw_mem 660 (by decide +kernel) rfl, fw_mem 26 (by decide +kernel) rfl⟩, ⟨_, _, _, fw_cls5⟩, by decide⟩
theorem pl_X5_wantPiecesOf : plainName (fw_mN mX5_wantPiecesOf).cls = true ∧ (fw_mN mX5_wantPiecesOf).cls = fw_cn (fw_mO mX5_wantPiecesOf) := ⟨by decide +kernel, rfl⟩
def mX5_gatherPiecesOfOthers : fw_M := (yX5_gatherPiecesOfOthers, cX5_gatherPiecesOfOthers, 3, none, 5, 0, 5, 122, 0, 0)
set_option maxRecDepth 20000 in
theorem mv_X5_gatherPiecesOfOthers : fw_mv mX5_gatherPiecesOfOthers 1 := ⟨⟨fw_mem 694 rfl rfl, fw_mem 65 (by decide +kernel) rfl, ⟨by decide +kernel, by decide +kernel, by decide +kernel⟩, rfl⟩, ⟨fw_mem 693 (by decide +kernel) rfl, fw_mem 30 (by decide +kernel) rfl⟩, ⟨_, _, _, fw_cls5⟩, by decide⟩
theorem pl_X5_gatherPiecesOfOthers : plainName (fw_mN mX5_gatherPiecesOfOthers).cls = true ∧ (fw_mN mX5_gatherPiecesOfOthers).cls = fw_cn (fw_mO mX5_gatherPiecesOfOthers) := ⟨by decide +kernel, rfl⟩
def mX5_addPiecesOf : fw_M := (yX5_addPiecesOf, cX5_addPiecesOf, 5, none, 5, 0, 4, 98, 0, 0)
set_option maxRecDepth 20000 in
theorem mv_X5_addPiecesOf : fw_mv mX5_addPiecesOf 2 := ⟨⟨fw_mem 665 rfl rfl, fw_mem 65 (by decide +kernel) rfl, ⟨by decide +kernel, by decide +kernel, by decide +kernel⟩, rfl⟩, ⟨fw_mem 664 (by decide +kernel) rfl, fw_mem 27 (by decide +kernel) rfl⟩, ⟨_, _, _, fw_cls5⟩, by decide⟩
theorem pl_X5_addPiecesOf : plainName (fw_mN mX5_addPiecesOf).cls = true ∧ (fw_mN mX5_addPiecesOf).cls = fw_cn (fw_mO mX5_addPiecesOf) := ⟨by decide +kernel, rfl⟩
def mX5_hasRoomForWanted : fw_M := (yX5_hasRoomForWanted, cX5_hasRoomForWanted, 3, (some .boolean), 5, 0, 3, 70, 0, 0)
set_option maxRecDepth 20000 in
theorem mv_X5_hasRoomForWanted : fw_mv mX5_hasRoomForWanted 1 := ⟨⟨fw_mem 520 rfl rfl, fw_mem 65 (by decide +kernel) rfl, ⟨by decide +kernel, by decide +kernel, by decide +kernel⟩, rfl⟩, ⟨fw_mem 519 (by decide +kernel) rfl, fw_mem 18 (by decide +kernel) rfl⟩, ⟨_, _, _, fw_cls5⟩, by decide⟩
theorem pl_X5_hasRoomForWanted : plainName (fw_mN mX5_hasRoomForWanted).cls = true ∧ (fw_mN mX5_hasRoomForWanted).cls = fw_cn (fw_mO mX5_hasRoomForWanted) := ⟨by decide +kernel, rfl⟩
def mX5_othersHaveWanted : fw_M := (yX5_othersHaveWanted, cX5_othersHaveWanted, 5, (some .boolean), 5, 0, 2, 47, 0, 0)
set_option maxRecDepth 20000 in
theorem mv_X5_othersHaveWanted : fw_mv mX5_othersHaveWanted 1 := ⟨⟨fw_mem 681 rfl rfl, fw_mem 65 (by decide +kernel) rfl, ⟨by decide +kernel, by decide +kernel, by decide +kernel⟩, rfl⟩, ⟨fw_mem 680 (by decide +kernel) rfl, fw_mem 29 (by decide +kernel) rfl⟩, ⟨_, _, _, fw_cls5⟩, by decide⟩
theorem pl_X5_othersHaveWanted : plainName (fw_mN mX5_othersHaveWanted).cls = true ∧ (fw_mN mX5_othersHaveWanted).cls = fw_cn (fw_mO mX5_othersHaveWanted) := ⟨by decide +kernel, rfl⟩
def mX5_power : fw_M := (yX5_power, cX5_power, 5, (some .long), 5, 0, 0, 0, 0, 0)
set_option maxRecDepth 20000 in
theorem mv_X5_power : fw_mt mX5_power 2 := ⟨⟨fw_mem 738 rfl rfl, fw_mem 65 (by decide +kernel) rfl, ⟨by decide +kernel, by decide +kernel, by decide +kernel⟩, rfl⟩, fw_mem 737 (by decide +kernel) rfl⟩
theorem pl_X5_power : plainName (fw_mN mX5_power).cls = true ∧ (fw_mN mX5_power).cls = fw_cn (fw_mO mX5_power) := ⟨by decide +kernel, rfl⟩
def mX5_choose : fw_M := (yX5_choose, cX5_choose, 5, (some .long), 5, 0, 0, 0, 0, 0)
set_option maxRecDepth 20000 in
theorem mv_X5_choose : fw_mt mX5_choose 2 := ⟨⟨fw_mem 748 rfl rfl, fw_mem 65 (by decide +kernel) rfl, ⟨by decide +kernel, by decide +kernel, by decide +kernel⟩, rfl⟩, fw_mem 747 (by decide +kernel) rfl⟩
theorem pl_X5_choose : plainName (fw_mN mX5_choose).cls = true ∧ (fw_mN mX5_choose).cls = fw_cn (fw_mO mX5_choose) := ⟨by decide +kernel, rfl⟩
def mX5_waysOfAtLeast : fw_M := (yX5_waysOfAtLeast, cX5_waysOfAtLeast, 6, (some .long), 5, 0, 1, 24, 0, 0)
set_option maxRecDepth 20000 in
theorem mv_X5_waysOfAtLeast : fw_mt mX5_waysOfAtLeast 3 := ⟨⟨fw_mem 745 rfl rfl, fw_mem 65 (by decide +kernel) rfl, ⟨by decide +kernel, by decide +kernel, by decide +kernel⟩, rfl⟩, fw_mem 744 (by decide +kernel) rfl⟩
theorem pl_X5_waysOfAtLeast : plainName (fw_mN mX5_waysOfAtLeast).cls = true ∧ (fw_mN mX5_waysOfAtLeast).cls = fw_cn (fw_mO mX5_waysOfAtLeast) := ⟨by decide +kernel, rfl⟩
def mX6_init : fw_M := (yX6_init, cX6_init, 1, none, 6, 1, 1, 21, 29, 4952)
set_option maxRecDepth 20000 in
theorem mv_X6_init : fw_mw mX6_init 0 ∧ ((fw_mN mX6_init).name = "<init>" ∧ fw_mT mX6_init = none ∧ Cond.instanceMethod (fw_mN mX6_init) ∈ fw_tbl) := ⟨⟨fw_mem 769 rfl rfl, fw_mem 72 (by decide +kernel) rfl, ⟨by decide +kernel, by decide +kernel, by decide +kernel⟩, rfl⟩, rfl, rfl, fw_mem 768 (by decide +kernel) rfl⟩
theorem pl_X6_init : plainName (fw_mN mX6_init).cls = true ∧ (fw_mN mX6_init).cls = fw_cn (fw_mO mX6_init) := ⟨by decide +kernel, rfl⟩
def mX6_in : fw_M := (yX6_in, cX6_in, 3, (some .boolean), 6, 1, 0, 0, 0, 0)
set_option maxRecDepth 20000 in
theorem mv_X6_in : fw_mt mX6_in 3 := ⟨⟨fw_mem 890 rfl rfl, fw_mem 72 (by decide +kernel) rfl, ⟨by decide +kernel, by decide +kernel, by decide +kernel⟩, rfl⟩, fw_mem 889 (by decide +kernel) rfl⟩
theorem pl_X6_in : plainName (fw_mN mX6_in).cls = true ∧ (fw_mN mX6_in).cls = fw_cn (fw_mO mX6_in) := ⟨by decide +kernel, rfl⟩
def mX6_begins : fw_M := (yX6_begins, cX6_begins, 2, none, 6, 1, 0, 0, 0, 0)
set_option maxRecDepth 20000 in
theorem mv_X6_begins : fw_mv mX6_begins 0 := ⟨⟨fw_mem 774 rfl rfl, fw_mem 72 (by decide +kernel) rfl, ⟨by decide +kernel, by decide +kernel, by decide +kernel⟩, rfl⟩, ⟨fw_mem 773 (by decide +kernel) rfl, fw_mem 31 (by decide +kernel) rfl⟩, ⟨_, _, _, fw_cls6⟩, by decide⟩
theorem pl_X6_begins : plainName (fw_mN mX6_begins).cls = true ∧ (fw_mN mX6_begins).cls = fw_cn (fw_mO mX6_begins) := ⟨by decide +kernel, rfl⟩
def mX6_isMachine : fw_M := (yX6_isMachine, cX6_isMachine, 2, (some .boolean), 6, 1, 1, 22, 0, 0)
set_option maxRecDepth 20000 in
theorem mv_X6_isMachine : fw_mv mX6_isMachine 1 := ⟨⟨fw_mem 902 rfl rfl, fw_mem 72 (by decide +kernel) rfl, ⟨by decide +kernel, by decide +kernel, by decide +kernel⟩, rfl⟩, ⟨fw_mem 901 (by decide +kernel) rfl, fw_mem 32 (by decide +kernel) rfl⟩, ⟨_, _, _, fw_cls6⟩, by decide⟩
theorem pl_X6_isMachine : plainName (fw_mN mX6_isMachine).cls = true ∧ (fw_mN mX6_isMachine).cls = fw_cn (fw_mO mX6_isMachine) := ⟨by decide +kernel, rfl⟩
def mX6_isThing : fw_M := (yX6_isThing, cX6_isThing, 1, (some .boolean), 6, 1, 1, 22, 0, 0)
set_option maxRecDepth 20000 in
theorem mv_X6_isThing : fw_mt mX6_isThing 1 := ⟨⟨fw_mem 905 rfl rfl, fw_mem 72 (by decide +kernel) rfl, ⟨by decide +kernel, by decide +kernel, by decide +kernel⟩, rfl⟩, fw_mem 904 (by decide +kernel) rfl⟩
theorem pl_X6_isThing : plainName (fw_mN mX6_isThing).cls = true ∧ (fw_mN mX6_isThing).cls = fw_cn (fw_mO mX6_isThing) := ⟨by decide +kernel, rfl⟩
def mX6_isDay : fw_M := (yX6_isDay, cX6_isDay, 2, (some .boolean), 6, 1, 1, 22, 0, 0)
set_option maxRecDepth 20000 in
theorem mv_X6_isDay : fw_mv mX6_isDay 1 := ⟨⟨fw_mem 1037 rfl rfl, fw_mem 72 (by decide +kernel) rfl, ⟨by decide +kernel, by decide +kernel, by decide +kernel⟩, rfl⟩, ⟨fw_mem 1036 (by decide +kernel) rfl, fw_mem 56 (by decide +kernel) rfl⟩, ⟨_, _, _, fw_cls6⟩, by decide⟩
theorem pl_X6_isDay : plainName (fw_mN mX6_isDay).cls = true ∧ (fw_mN mX6_isDay).cls = fw_cn (fw_mO mX6_isDay) := ⟨by decide +kernel, rfl⟩
def mX6_changeAt : fw_M := (yX6_changeAt, cX6_changeAt, 2, (some .int), 6, 1, 0, 0, 0, 0)
set_option maxRecDepth 20000 in
theorem mv_X6_changeAt : fw_mt mX6_changeAt 2 := ⟨⟨fw_mem 928 rfl rfl, fw_mem 72 (by decide +kernel) rfl, ⟨by decide +kernel, by decide +kernel, by decide +kernel⟩, rfl⟩, fw_mem 927 (by decide +kernel) rfl⟩
theorem pl_X6_changeAt : plainName (fw_mN mX6_changeAt).cls = true ∧ (fw_mN mX6_changeAt).cls = fw_cn (fw_mO mX6_changeAt) := ⟨by decide +kernel, rfl⟩
def mX6_first : fw_M := (yX6_first, cX6_first, 4, (some .int), 6, 1, 1, 21, 0, 0)
set_option maxRecDepth 20000 in
theorem mv_X6_first : fw_mv mX6_first 1 := ⟨⟨fw_mem 925 rfl rfl, fw_mem 72 (by decide +kernel) rfl, ⟨by decide +kernel, by decide +kernel, by decide +kernel⟩, rfl⟩, ⟨fw_mem 924 (by decide +kernel) rfl, fw_mem 37 (by decide +kernel) rfl⟩, ⟨_, _, _, fw_cls6⟩, by decide⟩
theorem pl_X6_first : plainName (fw_mN mX6_first).cls = true ∧ (fw_mN mX6_first).cls = fw_cn (fw_mO mX6_first) := ⟨by decide +kernel, rfl⟩
def mX6_restarts : fw_M := (yX6_restarts, cX6_restarts, 2, none, 6, 1, 0, 0, 0, 0)
set_option maxRecDepth 20000 in
theorem mv_X6_restarts : fw_mv mX6_restarts 0 := ⟨⟨fw_mem 921 rfl rfl, fw_mem 72 (by decide +kernel) rfl, ⟨by decide +kernel, by decide +kernel, by decide +kernel⟩, rfl⟩, ⟨fw_mem 920 (by decide +kernel) rfl, fw_mem 36 (by decide +kernel) rfl⟩, ⟨_, _, _, fw_cls6⟩, by decide⟩
theorem pl_X6_restarts : plainName (fw_mN mX6_restarts).cls = true ∧ (fw_mN mX6_restarts).cls = fw_cn (fw_mO mX6_restarts) := ⟨by decide +kernel, rfl⟩
def mX6_leaves : fw_M := (yX6_leaves, cX6_leaves, 5, none, 6, 1, 2, 44, 0, 0)
set_option maxRecDepth 20000 in
theorem mv_X6_leaves : fw_mv mX6_leaves 0 := ⟨⟨fw_mem 917 rfl rfl, fw_mem 72 (by decide +kernel) rfl, ⟨by decide +kernel, by decide +kernel, by decide +kernel⟩, rfl⟩, ⟨fw_mem 916 (by decide +kernel) rfl, fw_mem 35 (by decide +kernel) rfl⟩, ⟨_, _, _, fw_cls6⟩, by decide⟩
theorem pl_X6_leaves : plainName (fw_mN mX6_leaves).cls = true ∧ (fw_mN mX6_leaves).cls = fw_cn (fw_mO mX6_leaves) := ⟨by decide +kernel, rfl⟩
def mX6_isFolder : fw_M := (yX6_isFolder, cX6_isFolder, 2, (some .boolean), 6, 1, 0, 0, 0, 0)
set_option maxRecDepth 20000 in
theorem mv_X6_isFolder : fw_mv mX6_isFolder 1 := ⟨⟨fw_mem 936 rfl rfl, fw_mem 72 (by decide +kernel) rfl, ⟨by decide +kernel, by decide +kernel, by decide +kernel⟩, rfl⟩, ⟨fw_mem 935 (by decide +kernel) rfl, fw_mem 39 (by decide +kernel) rfl⟩, ⟨_, _, _, fw_cls6⟩, by decide⟩
theorem pl_X6_isFolder : plainName (fw_mN mX6_isFolder).cls = true ∧ (fw_mN mX6_isFolder).cls = fw_cn (fw_mO mX6_isFolder) := ⟨by decide +kernel, rfl⟩
def mX6_liesIn : fw_M := (yX6_liesIn, cX6_liesIn, 4, (some .boolean), 6, 1, 0, 0, 0, 0)
set_option maxRecDepth 20000 in
theorem mv_X6_liesIn : fw_mv mX6_liesIn 2 := ⟨⟨fw_mem 944 rfl rfl, fw_mem 72 (by decide +kernel) rfl, ⟨by decide +kernel, by decide +kernel, by decide +kernel⟩, rfl⟩, ⟨fw_mem 943 (by decide +kernel) rfl, fw_mem 41 (by decide +kernel) rfl⟩, ⟨_, _, _, fw_cls6⟩, by decide⟩
theorem pl_X6_liesIn : plainName (fw_mN mX6_liesIn).cls = true ∧ (fw_mN mX6_liesIn).cls = fw_cn (fw_mO mX6_liesIn) := ⟨by decide +kernel, rfl⟩
def mX6_puts : fw_M := (yX6_puts, cX6_puts, 5, none, 6, 1, 0, 0, 0, 0)
set_option maxRecDepth 20000 in
theorem mv_X6_puts : fw_mv mX6_puts 4 := ⟨⟨fw_mem 940 rfl rfl, fw_mem 72 (by decide +kernel) rfl, ⟨by decide +kernel, by decide +kernel, by decide +kernel⟩, rfl⟩, ⟨fw_mem 939 (by decide +kernel) rfl, fw_mem 40 (by decide +kernel) rfl⟩, ⟨_, _, _, fw_cls6⟩, by decide⟩
theorem pl_X6_puts : plainName (fw_mN mX6_puts).cls = true ∧ (fw_mN mX6_puts).cls = fw_cn (fw_mO mX6_puts) := ⟨by decide +kernel, rfl⟩
def mX6_goes : fw_M := (yX6_goes, cX6_goes, 3, none, 6, 1, 1, 23, 0, 0)
set_option maxRecDepth 20000 in
theorem mv_X6_goes : fw_mv mX6_goes 1 := ⟨⟨fw_mem 948 rfl rfl, fw_mem 72 (by decide +kernel) rfl, ⟨by decide +kernel, by decide +kernel, by decide +kernel⟩, rfl⟩, ⟨fw_mem 947 (by decide +kernel) rfl, fw_mem 42 (by decide +kernel) rfl⟩, ⟨_, _, _, fw_cls6⟩, by decide⟩
theorem pl_X6_goes : plainName (fw_mN mX6_goes).cls = true ∧ (fw_mN mX6_goes).cls = fw_cn (fw_mO mX6_goes) := ⟨by decide +kernel, rfl⟩
def mX6_writes : fw_M := (yX6_writes, cX6_writes, 6, none, 6, 1, 1, 21, 0, 0)
set_option maxRecDepth 20000 in
theorem mv_X6_writes : fw_mv mX6_writes 2 := ⟨⟨fw_mem 952 rfl rfl, fw_mem 72 (by decide +kernel) rfl, ⟨by decide +kernel, by decide +kernel, by decide +kernel⟩, rfl⟩, ⟨fw_mem 951 (by decide +kernel) rfl, fw_mem 43 (by decide +kernel) rfl⟩, ⟨_, _, _, fw_cls6⟩, by decide⟩
theorem pl_X6_writes : plainName (fw_mN mX6_writes).cls = true ∧ (fw_mN mX6_writes).cls = fw_cn (fw_mO mX6_writes) := ⟨by decide +kernel, rfl⟩
def mX6_does : fw_M := (yX6_does, cX6_does, 8, none, 6, 1, 2, 46, 0, 0)
set_option maxRecDepth 20000 in
theorem mv_X6_does : fw_mv mX6_does 3 := ⟨⟨fw_mem 932 rfl rfl, fw_mem 72 (by decide +kernel) rfl, ⟨by decide +kernel, by decide +kernel, by decide +kernel⟩, rfl⟩, ⟨fw_mem 931 (by decide +kernel) rfl, fw_mem 38 (by decide +kernel) rfl⟩, ⟨_, _, _, fw_cls6⟩, by decide⟩
theorem pl_X6_does : plainName (fw_mN mX6_does).cls = true ∧ (fw_mN mX6_does).cls = fw_cn (fw_mO mX6_does) := ⟨by decide +kernel, rfl⟩
def mX6_tells : fw_M := (yX6_tells, cX6_tells, 3, none, 6, 1, 3, 73, 0, 0)
set_option maxRecDepth 20000 in
theorem mv_X6_tells : fw_mv mX6_tells 0 := ⟨⟨fw_mem 913 rfl rfl, fw_mem 72 (by decide +kernel) rfl, ⟨by decide +kernel, by decide +kernel, by decide +kernel⟩, rfl⟩, ⟨fw_mem 912 (by decide +kernel) rfl, fw_mem 34 (by decide +kernel) rfl⟩, ⟨_, _, _, fw_cls6⟩, by decide⟩
theorem pl_X6_tells : plainName (fw_mN mX6_tells).cls = true ∧ (fw_mN mX6_tells).cls = fw_cn (fw_mO mX6_tells) := ⟨by decide +kernel, rfl⟩
def mX6_isAhead : fw_M := (yX6_isAhead, cX6_isAhead, 3, (some .boolean), 6, 1, 0, 0, 0, 0)
set_option maxRecDepth 20000 in
theorem mv_X6_isAhead : fw_mv mX6_isAhead 2 := ⟨⟨fw_mem 960 rfl rfl, fw_mem 72 (by decide +kernel) rfl, ⟨by decide +kernel, by decide +kernel, by decide +kernel⟩, rfl⟩, ⟨fw_mem 959 (by decide +kernel) rfl, fw_mem 45 (by decide +kernel) rfl⟩, ⟨_, _, _, fw_cls6⟩, by decide⟩
theorem pl_X6_isAhead : plainName (fw_mN mX6_isAhead).cls = true ∧ (fw_mN mX6_isAhead).cls = fw_cn (fw_mO mX6_isAhead) := ⟨by decide +kernel, rfl⟩
def mX6_names : fw_M := (yX6_names, cX6_names, 4, none, 6, 1, 2, 44, 0, 0)
set_option maxRecDepth 20000 in
theorem mv_X6_names : fw_mv mX6_names 0 := ⟨⟨fw_mem 956 rfl rfl, fw_mem 72 (by decide +kernel) rfl, ⟨by decide +kernel, by decide +kernel, by decide +kernel⟩, rfl⟩, ⟨fw_mem 955 (by decide +kernel) rfl, fw_mem 44 (by decide +kernel) rfl⟩, ⟨_, _, _, fw_cls6⟩, by decide⟩
theorem pl_X6_names : plainName (fw_mN mX6_names).cls = true ∧ (fw_mN mX6_names).cls = fw_cn (fw_mO mX6_names) := ⟨by decide +kernel, rfl⟩
def mX6_nextNameless : fw_M := (yX6_nextNameless, cX6_nextNameless, 3, (some .int), 6, 1, 1, 22, 0, 0)
set_option maxRecDepth 20000 in
theorem mv_X6_nextNameless : fw_mv mX6_nextNameless 0 := ⟨⟨fw_mem 964 rfl rfl, fw_mem 72 (by decide +kernel) rfl, ⟨by decide +kernel, by decide +kernel, by decide +kernel⟩, rfl⟩, ⟨fw_mem 963 (by decide +kernel) rfl, fw_mem 46 (by decide +kernel) rfl⟩, ⟨_, _, _, fw_cls6⟩, by decide⟩
theorem pl_X6_nextNameless : plainName (fw_mN mX6_nextNameless).cls = true ∧ (fw_mN mX6_nextNameless).cls = fw_cn (fw_mO mX6_nextNameless) := ⟨by decide +kernel, rfl⟩
def mX6_isTaken : fw_M := (yX6_isTaken, cX6_isTaken, 5, (some .boolean), 6, 1, 0, 0, 0, 0)
set_option maxRecDepth 20000 in
theorem mv_X6_isTaken : fw_mv mX6_isTaken 2 := ⟨⟨fw_mem 968 rfl rfl, fw_mem 72 (by decide +kernel) rfl, ⟨by decide +kernel, by decide +kernel, by decide +kernel⟩, rfl⟩, ⟨fw_mem 967 (by decide +kernel) rfl, fw_mem 47 (by decide +kernel) rfl⟩, ⟨_, _, _, fw_cls6⟩, by decide⟩
theorem pl_X6_isTaken : plainName (fw_mN mX6_isTaken).cls = true ∧ (fw_mN mX6_isTaken).cls = fw_cn (fw_mO mX6_isTaken) := ⟨by decide +kernel, rfl⟩
def mX6_tellsNow : fw_M := (yX6_tellsNow, cX6_tellsNow, 3, none, 6, 1, 4, 95, 0, 0)
set_option maxRecDepth 20000 in
theorem mv_X6_tellsNow : fw_mv mX6_tellsNow 1 := ⟨⟨fw_mem 909 rfl rfl, fw_mem 72 (by decide +kernel) rfl, ⟨by decide +kernel, by decide +kernel, by decide +kernel⟩, rfl⟩, ⟨fw_mem 908 (by decide +kernel) rfl, fw_mem 33 (by decide +kernel) rfl⟩, ⟨_, _, _, fw_cls6⟩, by decide⟩
theorem pl_X6_tellsNow : plainName (fw_mN mX6_tellsNow).cls = true ∧ (fw_mN mX6_tellsNow).cls = fw_cn (fw_mO mX6_tellsNow) := ⟨by decide +kernel, rfl⟩
def mX6_tellsOf : fw_M := (yX6_tellsOf, cX6_tellsOf, 4, none, 6, 1, 5, 117, 0, 0)
set_option maxRecDepth 20000 in
theorem mv_X6_tellsOf : fw_mv mX6_tellsOf 2 := ⟨⟨fw_mem 1041 rfl rfl, fw_mem 72 (by decide +kernel) rfl, ⟨by decide +kernel, by decide +kernel, by decide +kernel⟩, rfl⟩, ⟨fw_mem 1040 (by decide +kernel) rfl, fw_mem 57 (by decide +kernel) rfl⟩, ⟨_, _, _, fw_cls6⟩, by decide⟩
theorem pl_X6_tellsOf : plainName (fw_mN mX6_tellsOf).cls = true ∧ (fw_mN mX6_tellsOf).cls = fw_cn (fw_mO mX6_tellsOf) := ⟨by decide +kernel, rfl⟩
def mX6_machines : fw_M := (yX6_machines, cX6_machines, 3, (some .int), 6, 1, 1, 22, 0, 0)
set_option maxRecDepth 20000 in
theorem mv_X6_machines : fw_mv mX6_machines 1 := ⟨⟨fw_mem 887 rfl rfl, fw_mem 72 (by decide +kernel) rfl, ⟨by decide +kernel, by decide +kernel, by decide +kernel⟩, rfl⟩, ⟨fw_mem 885 (by decide +kernel) rfl, fw_mem 886 (by decide +kernel) rfl⟩, ⟨_, _, _, fw_cls6⟩, by decide⟩
theorem pl_X6_machines : plainName (fw_mN mX6_machines).cls = true ∧ (fw_mN mX6_machines).cls = fw_cn (fw_mO mX6_machines) := ⟨by decide +kernel, rfl⟩
def mX6_rules : fw_M := (yX6_rules, cX6_rules, 3, (some .int), 6, 1, 1, 22, 0, 0)
set_option maxRecDepth 20000 in
theorem mv_X6_rules : fw_mv mX6_rules 1 := ⟨⟨fw_mem 894 rfl rfl, fw_mem 72 (by decide +kernel) rfl, ⟨by decide +kernel, by decide +kernel, by decide +kernel⟩, rfl⟩, ⟨fw_mem 892 (by decide +kernel) rfl, fw_mem 893 (by decide +kernel) rfl⟩, ⟨_, _, _, fw_cls6⟩, by decide⟩
theorem pl_X6_rules : plainName (fw_mN mX6_rules).cls = true ∧ (fw_mN mX6_rules).cls = fw_cn (fw_mO mX6_rules) := ⟨by decide +kernel, rfl⟩
def mX6_makes : fw_M := (yX6_makes, cX6_makes, 13, (some .int), 6, 1, 1, 21, 0, 0)
set_option maxRecDepth 20000 in
theorem mv_X6_makes : fw_mv mX6_makes 6 := ⟨⟨fw_mem 976 rfl rfl, fw_mem 72 (by decide +kernel) rfl, ⟨by decide +kernel, by decide +kernel, by decide +kernel⟩, rfl⟩, ⟨fw_mem 975 (by decide +kernel) rfl, fw_mem 49 (by decide +kernel) rfl⟩, ⟨_, _, _, fw_cls6⟩, by decide⟩
theorem pl_X6_makes : plainName (fw_mN mX6_makes).cls = true ∧ (fw_mN mX6_makes).cls = fw_cn (fw_mO mX6_makes) := ⟨by decide +kernel, rfl⟩
def mX6_make : fw_M := (yX6_make, cX6_make, 6, (some .int), 6, 1, 5, 117, 0, 0)
set_option maxRecDepth 20000 in
theorem mv_X6_make : fw_mv mX6_make 4 := ⟨⟨fw_mem 898 rfl rfl, fw_mem 72 (by decide +kernel) rfl, ⟨by decide +kernel, by decide +kernel, by decide +kernel⟩, rfl⟩, ⟨fw_mem 896 (by decide +kernel) rfl, fw_mem 897 (by decide +kernel) rfl⟩, ⟨_, _, _, fw_cls6⟩, by decide⟩
theorem pl_X6_make : plainName (fw_mN mX6_make).cls = true ∧ (fw_mN mX6_make).cls = fw_cn (fw_mO mX6_make) := ⟨by decide +kernel, rfl⟩
def mX6_isNew : fw_M := (yX6_isNew, cX6_isNew, 7, (some .boolean), 6, 1, 1, 21, 0, 0)
set_option maxRecDepth 20000 in
theorem mv_X6_isNew : fw_mv mX6_isNew 2 := ⟨⟨fw_mem 972 rfl rfl, fw_mem 72 (by decide +kernel) rfl, ⟨by decide +kernel, by decide +kernel, by decide +kernel⟩, rfl⟩, ⟨fw_mem 971 (by decide +kernel) rfl, fw_mem 48 (by decide +kernel) rfl⟩, ⟨_, _, _, fw_cls6⟩, by decide⟩
theorem pl_X6_isNew : plainName (fw_mN mX6_isNew).cls = true ∧ (fw_mN mX6_isNew).cls = fw_cn (fw_mO mX6_isNew) := ⟨by decide +kernel, rfl⟩
def mX6_move : fw_M := (yX6_move, cX6_move, 5, (some .int), 6, 1, 5, 117, 0, 0)
set_option maxRecDepth 20000 in
theorem mv_X6_move : fw_mv mX6_move 4 := ⟨⟨fw_mem 980 rfl rfl, fw_mem 72 (by decide +kernel) rfl, ⟨by decide +kernel, by decide +kernel, by decide +kernel⟩, rfl⟩, ⟨fw_mem 978 (by decide +kernel) rfl, fw_mem 979 (by decide +kernel) rfl⟩, ⟨_, _, _, fw_cls6⟩, by decide⟩
theorem pl_X6_move : plainName (fw_mN mX6_move).cls = true ∧ (fw_mN mX6_move).cls = fw_cn (fw_mO mX6_move) := ⟨by decide +kernel, rfl⟩
def mX6_gone : fw_M := (yX6_gone, cX6_gone, 3, (some .int), 6, 1, 5, 117, 0, 0)
set_option maxRecDepth 20000 in
theorem mv_X6_gone : fw_mv mX6_gone 2 := ⟨⟨fw_mem 984 rfl rfl, fw_mem 72 (by decide +kernel) rfl, ⟨by decide +kernel, by decide +kernel, by decide +kernel⟩, rfl⟩, ⟨fw_mem 982 (by decide +kernel) rfl, fw_mem 983 (by decide +kernel) rfl⟩, ⟨_, _, _, fw_cls6⟩, by decide⟩
theorem pl_X6_gone : plainName (fw_mN mX6_gone).cls = true ∧ (fw_mN mX6_gone).cls = fw_cn (fw_mO mX6_gone) := ⟨by decide +kernel, rfl⟩
def mX6_byteOf : fw_M := (yX6_byteOf, cX6_byteOf, 4, (some .int), 6, 1, 0, 0, 0, 0)
set_option maxRecDepth 20000 in
theorem mv_X6_byteOf : fw_mt mX6_byteOf 3 := ⟨⟨fw_mem 995 rfl rfl, fw_mem 72 (by decide +kernel) rfl, ⟨by decide +kernel, by decide +kernel, by decide +kernel⟩, rfl⟩, fw_mem 994 (by decide +kernel) rfl⟩
theorem pl_X6_byteOf : plainName (fw_mN mX6_byteOf).cls = true ∧ (fw_mN mX6_byteOf).cls = fw_cn (fw_mO mX6_byteOf) := ⟨by decide +kernel, rfl⟩
def mX6_cuts : fw_M := (yX6_cuts, cX6_cuts, 11, none, 6, 1, 1, 23, 0, 0)
set_option maxRecDepth 20000 in
theorem mv_X6_cuts : fw_mv mX6_cuts 2 := ⟨⟨fw_mem 992 rfl rfl, fw_mem 72 (by decide +kernel) rfl, ⟨by decide +kernel, by decide +kernel, by decide +kernel⟩, rfl⟩, ⟨fw_mem 991 (by decide +kernel) rfl, fw_mem 50 (by decide +kernel) rfl⟩, ⟨_, _, _, fw_cls6⟩, by decide⟩
theorem pl_X6_cuts : plainName (fw_mN mX6_cuts).cls = true ∧ (fw_mN mX6_cuts).cls = fw_cn (fw_mO mX6_cuts) := ⟨by decide +kernel, rfl⟩
def mX6_pieceAt : fw_M := (yX6_pieceAt, cX6_pieceAt, 7, (some .int), 6, 1, 0, 0, 0, 0)
set_option maxRecDepth 20000 in
theorem mv_X6_pieceAt : fw_mv mX6_pieceAt 3 := ⟨⟨fw_mem 1013 rfl rfl, fw_mem 72 (by decide +kernel) rfl, ⟨by decide +kernel, by decide +kernel, by decide +kernel⟩, rfl⟩, ⟨fw_mem 1012 (by decide +kernel) rfl, fw_mem 54 (by decide +kernel) rfl⟩, ⟨_, _, _, fw_cls6⟩, by decide⟩
theorem pl_X6_pieceAt : plainName (fw_mN mX6_pieceAt).cls = true ∧ (fw_mN mX6_pieceAt).cls = fw_cn (fw_mO mX6_pieceAt) := ⟨by decide +kernel, rfl⟩
def mX6_bytesAt : fw_M := (yX6_bytesAt, cX6_bytesAt, 4, (some .int), 6, 1, 0, 0, 0, 0)
set_option maxRecDepth 20000 in
theorem mv_X6_bytesAt : fw_mv mX6_bytesAt 1 := ⟨⟨fw_mem 1005 rfl rfl, fw_mem 72 (by decide +kernel) rfl, ⟨by decide +kernel, by decide +kernel, by decide +kernel⟩, rfl⟩, ⟨fw_mem 1004 (by decide +kernel) rfl, fw_mem 52 (by decide +kernel) rfl⟩, ⟨_, _, _, fw_cls6⟩, by decide⟩
theorem pl_X6_bytesAt : plainName (fw_mN mX6_bytesAt).cls = true ∧ (fw_mN mX6_bytesAt).cls = fw_cn (fw_mO mX6_bytesAt) := ⟨by decide +kernel, rfl⟩
def mX6_lacking : fw_M := (yX6_lacking, cX6_lacking, 4, (some .int), 6, 1, 1, 26, 0, 0)
set_option maxRecDepth 20000 in
theorem mv_X6_lacking : fw_mv mX6_lacking 1 := ⟨⟨fw_mem 1009 rfl rfl, fw_mem 72 (by decide +kernel) rfl, ⟨by decide +kernel, by decide +kernel, by decide +kernel⟩, rfl⟩, ⟨fw_mem 1008 (by decide +kernel) rfl, fw_mem 53 (by decide +kernel) rfl⟩, ⟨_, _, _, fw_cls6⟩, by decide⟩
theorem pl_X6_lacking : plainName (fw_mN mX6_lacking).cls = true ∧ (fw_mN mX6_lacking).cls = fw_cn (fw_mO mX6_lacking) := ⟨by decide +kernel, rfl⟩
def mX6_takes : fw_M := (yX6_takes, cX6_takes, 4, none, 6, 1, 1, 26, 0, 0)
set_option maxRecDepth 20000 in
theorem mv_X6_takes : fw_mv mX6_takes 1 := ⟨⟨fw_mem 1017 rfl rfl, fw_mem 72 (by decide +kernel) rfl, ⟨by decide +kernel, by decide +kernel, by decide +kernel⟩, rfl⟩, ⟨fw_mem 1016 (by decide +kernel) rfl, fw_mem 55 (by decide +kernel) rfl⟩, ⟨_, _, _, fw_cls6⟩, by decide⟩
theorem pl_X6_takes : plainName (fw_mN mX6_takes).cls = true ∧ (fw_mN mX6_takes).cls = fw_cn (fw_mO mX6_takes) := ⟨by decide +kernel, rfl⟩
def mX6_isFile : fw_M := (yX6_isFile, cX6_isFile, 2, (some .boolean), 6, 1, 0, 0, 0, 0)
set_option maxRecDepth 20000 in
theorem mv_X6_isFile : fw_mv mX6_isFile 1 := ⟨⟨fw_mem 1001 rfl rfl, fw_mem 72 (by decide +kernel) rfl, ⟨by decide +kernel, by decide +kernel, by decide +kernel⟩, rfl⟩, ⟨fw_mem 1000 (by decide +kernel) rfl, fw_mem 51 (by decide +kernel) rfl⟩, ⟨_, _, _, fw_cls6⟩, by decide⟩
theorem pl_X6_isFile : plainName (fw_mN mX6_isFile).cls = true ∧ (fw_mN mX6_isFile).cls = fw_cn (fw_mO mX6_isFile) := ⟨by decide +kernel, rfl⟩
def mX6_write : fw_M := (yX6_write, cX6_write, 6, (some .int), 6, 1, 5, 117, 0, 0)
set_option maxRecDepth 20000 in
theorem mv_X6_write : fw_mv mX6_write 4 := ⟨⟨fw_mem 988 rfl rfl, fw_mem 72 (by decide +kernel) rfl, ⟨by decide +kernel, by decide +kernel, by decide +kernel⟩, rfl⟩, ⟨fw_mem 986 (by decide +kernel) rfl, fw_mem 987 (by decide +kernel) rfl⟩, ⟨_, _, _, fw_cls6⟩, by decide⟩
theorem pl_X6_write : plainName (fw_mN mX6_write).cls = true ∧ (fw_mN mX6_write).cls = fw_cn (fw_mO mX6_write) := ⟨by decide +kernel, rfl⟩
def mX6_send : fw_M := (yX6_send, cX6_send, 6, (some .int), 6, 1, 2, 43, 0, 0)
set_option maxRecDepth 20000 in
theorem mv_X6_send : fw_mv mX6_send 2 := ⟨⟨fw_mem 1021 rfl rfl, fw_mem 72 (by decide +kernel) rfl, ⟨by decide +kernel, by decide +kernel, by decide +kernel⟩, rfl⟩, ⟨fw_mem 1019 (by decide +kernel) rfl, fw_mem 1020 (by decide +kernel) rfl⟩, ⟨_, _, _, fw_cls6⟩, by decide⟩
theorem pl_X6_send : plainName (fw_mN mX6_send).cls = true ∧ (fw_mN mX6_send).cls = fw_cn (fw_mO mX6_send) := ⟨by decide +kernel, rfl⟩
def mX6_sendSome : fw_M := (yX6_sendSome, cX6_sendSome, 6, (some .int), 6, 1, 2, 44, 0, 0)
set_option maxRecDepth 20000 in
theorem mv_X6_sendSome : fw_mv mX6_sendSome 3 := ⟨⟨fw_mem 1025 rfl rfl, fw_mem 72 (by decide +kernel) rfl, ⟨by decide +kernel, by decide +kernel, by decide +kernel⟩, rfl⟩, ⟨fw_mem 1023 (by decide +kernel) rfl, fw_mem 1024 (by decide +kernel) rfl⟩, ⟨_, _, _, fw_cls6⟩, by decide⟩
theorem pl_X6_sendSome : plainName (fw_mN mX6_sendSome).cls = true ∧ (fw_mN mX6_sendSome).cls = fw_cn (fw_mO mX6_sendSome) := ⟨by decide +kernel, rfl⟩
def mX6_change : fw_M := (yX6_change, cX6_change, 5, (some .int), 6, 1, 3, 68, 0, 0)
set_option maxRecDepth 20000 in
theorem mv_X6_change : fw_mv mX6_change 3 := ⟨⟨fw_mem 1029 rfl rfl, fw_mem 72 (by decide +kernel) rfl, ⟨by decide +kernel, by decide +kernel, by decide +kernel⟩, rfl⟩, ⟨fw_mem 1027 (by decide +kernel) rfl, fw_mem 1028 (by decide +kernel) rfl⟩, ⟨_, _, _, fw_cls6⟩, by decide⟩
theorem pl_X6_change : plainName (fw_mN mX6_change).cls = true ∧ (fw_mN mX6_change).cls = fw_cn (fw_mO mX6_change) := ⟨by decide +kernel, rfl⟩
def mX6_thing : fw_M := (yX6_thing, cX6_thing, 5, (some .int), 6, 1, 6, 140, 0, 0)
set_option maxRecDepth 20000 in
theorem mv_X6_thing : fw_mv mX6_thing 4 := ⟨⟨fw_mem 1033 rfl rfl, fw_mem 72 (by decide +kernel) rfl, ⟨by decide +kernel, by decide +kernel, by decide +kernel⟩, rfl⟩, ⟨fw_mem 1031 (by decide +kernel) rfl, fw_mem 1032 (by decide +kernel) rfl⟩, ⟨_, _, _, fw_cls6⟩, by decide⟩
theorem pl_X6_thing : plainName (fw_mN mX6_thing).cls = true ∧ (fw_mN mX6_thing).cls = fw_cn (fw_mO mX6_thing) := ⟨by decide +kernel, rfl⟩
def mX6_sizeOf : fw_M := (yX6_sizeOf, cX6_sizeOf, 2, (some .int), 6, 1, 0, 0, 0, 0)
set_option maxRecDepth 20000 in
theorem mv_X6_sizeOf : fw_mv mX6_sizeOf 1 := ⟨⟨fw_mem 1049 rfl rfl, fw_mem 72 (by decide +kernel) rfl, ⟨by decide +kernel, by decide +kernel, by decide +kernel⟩, rfl⟩, ⟨fw_mem 1048 (by decide +kernel) rfl, fw_mem 58 (by decide +kernel) rfl⟩, ⟨_, _, _, fw_cls6⟩, by decide⟩
theorem pl_X6_sizeOf : plainName (fw_mN mX6_sizeOf).cls = true ∧ (fw_mN mX6_sizeOf).cls = fw_cn (fw_mO mX6_sizeOf) := ⟨by decide +kernel, rfl⟩
def mX6_bytes : fw_M := (yX6_bytes, cX6_bytes, 6, (some .int), 6, 1, 5, 117, 0, 0)
set_option maxRecDepth 20000 in
theorem mv_X6_bytes : fw_mv mX6_bytes 4 := ⟨⟨fw_mem 1045 rfl rfl, fw_mem 72 (by decide +kernel) rfl, ⟨by decide +kernel, by decide +kernel, by decide +kernel⟩, rfl⟩, ⟨fw_mem 1043 (by decide +kernel) rfl, fw_mem 1044 (by decide +kernel) rfl⟩, ⟨_, _, _, fw_cls6⟩, by decide⟩
theorem pl_X6_bytes : plainName (fw_mN mX6_bytes).cls = true ∧ (fw_mN mX6_bytes).cls = fw_cn (fw_mO mX6_bytes) := ⟨by decide +kernel, rfl⟩
def mX6_held : fw_M := (yX6_held, cX6_held, 4, (some .int), 6, 1, 1, 21, 0, 0)
set_option maxRecDepth 20000 in
theorem mv_X6_held : fw_mv mX6_held 1 := ⟨⟨fw_mem 1057 rfl rfl, fw_mem 72 (by decide +kernel) rfl, ⟨by decide +kernel, by decide +kernel, by decide +kernel⟩, rfl⟩, ⟨fw_mem 1056 (by decide +kernel) rfl, fw_mem 59 (by decide +kernel) rfl⟩, ⟨_, _, _, fw_cls6⟩, by decide⟩
theorem pl_X6_held : plainName (fw_mN mX6_held).cls = true ∧ (fw_mN mX6_held).cls = fw_cn (fw_mO mX6_held) := ⟨by decide +kernel, rfl⟩
def mX6_inside : fw_M := (yX6_inside, cX6_inside, 4, (some .int), 6, 1, 0, 0, 0, 0)
set_option maxRecDepth 20000 in
theorem mv_X6_inside : fw_mv mX6_inside 1 := ⟨⟨fw_mem 1066 rfl rfl, fw_mem 72 (by decide +kernel) rfl, ⟨by decide +kernel, by decide +kernel, by decide +kernel⟩, rfl⟩, ⟨fw_mem 1065 (by decide +kernel) rfl, fw_mem 60 (by decide +kernel) rfl⟩, ⟨_, _, _, fw_cls6⟩, by decide⟩
theorem pl_X6_inside : plainName (fw_mN mX6_inside).cls = true ∧ (fw_mN mX6_inside).cls = fw_cn (fw_mO mX6_inside) := ⟨by decide +kernel, rfl⟩
def mX6_bulk : fw_M := (yX6_bulk, cX6_bulk, 6, (some .int), 6, 1, 5, 117, 0, 0)
set_option maxRecDepth 20000 in
theorem mv_X6_bulk : fw_mv mX6_bulk 3 := ⟨⟨fw_mem 1053 rfl rfl, fw_mem 72 (by decide +kernel) rfl, ⟨by decide +kernel, by decide +kernel, by decide +kernel⟩, rfl⟩, ⟨fw_mem 1051 (by decide +kernel) rfl, fw_mem 1052 (by decide +kernel) rfl⟩, ⟨_, _, _, fw_cls6⟩, by decide⟩
theorem pl_X6_bulk : plainName (fw_mN mX6_bulk).cls = true ∧ (fw_mN mX6_bulk).cls = fw_cn (fw_mO mX6_bulk) := ⟨by decide +kernel, rfl⟩
def mX6_things : fw_M := (yX6_things, cX6_things, 5, (some .int), 6, 1, 6, 140, 0, 0)
set_option maxRecDepth 20000 in
theorem mv_X6_things : fw_mv mX6_things 2 := ⟨⟨fw_mem 1070 rfl rfl, fw_mem 72 (by decide +kernel) rfl, ⟨by decide +kernel, by decide +kernel, by decide +kernel⟩, rfl⟩, ⟨fw_mem 1068 (by decide +kernel) rfl, fw_mem 1069 (by decide +kernel) rfl⟩, ⟨_, _, _, fw_cls6⟩, by decide⟩
theorem pl_X6_things : plainName (fw_mN mX6_things).cls = true ∧ (fw_mN mX6_things).cls = fw_cn (fw_mO mX6_things) := ⟨by decide +kernel, rfl⟩
def mX6_find : fw_M := (yX6_find, cX6_find, 6, (some .int), 6, 1, 5, 117, 0, 0)
set_option maxRecDepth 20000 in
theorem mv_X6_find : fw_mv mX6_find 3 := ⟨⟨fw_mem 1074 rfl rfl, fw_mem 72 (by decide +kernel) rfl, ⟨by decide +kernel, by decide +kernel, by decide +kernel⟩, rfl⟩, ⟨fw_mem 1072 (by decide +kernel) rfl, fw_mem 1073 (by decide +kernel) rfl⟩, ⟨_, _, _, fw_cls6⟩, by decide⟩
theorem pl_X6_find : plainName (fw_mN mX6_find).cls = true ∧ (fw_mN mX6_find).cls = fw_cn (fw_mO mX6_find) := ⟨by decide +kernel, rfl⟩
def mX6_sum : fw_M := (yX6_sum, cX6_sum, 11, (some .int), 6, 1, 6, 140, 0, 0)
set_option maxRecDepth 20000 in
theorem mv_X6_sum : fw_mv mX6_sum 2 := ⟨⟨fw_mem 1078 rfl rfl, fw_mem 72 (by decide +kernel) rfl, ⟨by decide +kernel, by decide +kernel, by decide +kernel⟩, rfl⟩, ⟨fw_mem 1076 (by decide +kernel) rfl, fw_mem 1077 (by decide +kernel) rfl⟩, ⟨_, _, _, fw_cls6⟩, by decide⟩
theorem pl_X6_sum : plainName (fw_mN mX6_sum).cls = true ∧ (fw_mN mX6_sum).cls = fw_cn (fw_mO mX6_sum) := ⟨by decide +kernel, rfl⟩
def mX6_differ : fw_M := (yX6_differ, cX6_differ, 6, (some .int), 6, 1, 2, 43, 0, 0)
set_option maxRecDepth 20000 in
theorem mv_X6_differ : fw_mv mX6_differ 2 := ⟨⟨fw_mem 1085 rfl rfl, fw_mem 72 (by decide +kernel) rfl, ⟨by decide +kernel, by decide +kernel, by decide +kernel⟩, rfl⟩, ⟨fw_mem 1083 (by decide +kernel) rfl, fw_mem 1084 (by decide +kernel) rfl⟩, ⟨_, _, _, fw_cls6⟩, by decide⟩
theorem pl_X6_differ : plainName (fw_mN mX6_differ).cls = true ∧ (fw_mN mX6_differ).cls = fw_cn (fw_mO mX6_differ) := ⟨by decide +kernel, rfl⟩
def mX6_apart : fw_M := (yX6_apart, cX6_apart, 4, (some .int), 6, 1, 2, 43, 0, 0)
set_option maxRecDepth 20000 in
theorem mv_X6_apart : fw_mv mX6_apart 2 := ⟨⟨fw_mem 1089 rfl rfl, fw_mem 72 (by decide +kernel) rfl, ⟨by decide +kernel, by decide +kernel, by decide +kernel⟩, rfl⟩, ⟨fw_mem 1087 (by decide +kernel) rfl, fw_mem 1088 (by decide +kernel) rfl⟩, ⟨_, _, _, fw_cls6⟩, by decide⟩
theorem pl_X6_apart : plainName (fw_mN mX6_apart).cls = true ∧ (fw_mN mX6_apart).cls = fw_cn (fw_mO mX6_apart) := ⟨by decide +kernel, rfl⟩
def mX6_let : fw_M := (yX6_let, cX6_let, 3, (some .int), 6, 1, 2, 43, 0, 0)
set_option maxRecDepth 20000 in
theorem mv_X6_let : fw_mv mX6_let 1 := ⟨⟨fw_mem 1093 rfl rfl, fw_mem 72 (by decide +kernel) rfl, ⟨by decide +kernel, by decide +kernel, by decide +kernel⟩, rfl⟩, ⟨fw_mem 1091 (by decide +kernel) rfl, fw_mem 1092 (by decide +kernel) rfl⟩, ⟨_, _, _, fw_cls6⟩, by decide⟩
theorem pl_X6_let : plainName (fw_mN mX6_let).cls = true ∧ (fw_mN mX6_let).cls = fw_cn (fw_mO mX6_let) := ⟨by decide +kernel, rfl⟩
def mX6_left : fw_M := (yX6_left, cX6_left, 6, (some .int), 6, 1, 3, 68, 0, 0)
set_option maxRecDepth 20000 in
theorem mv_X6_left : fw_mv mX6_left 2 := ⟨⟨fw_mem 1101 rfl rfl, fw_mem 72 (by decide +kernel) rfl, ⟨by decide +kernel, by decide +kernel, by decide +kernel⟩, rfl⟩, ⟨fw_mem 1100 (by decide +kernel) rfl, fw_mem 61 (by decide +kernel) rfl⟩, ⟨_, _, _, fw_cls6⟩, by decide⟩
theorem pl_X6_left : plainName (fw_mN mX6_left).cls = true ∧ (fw_mN mX6_left).cls = fw_cn (fw_mO mX6_left) := ⟨by decide +kernel, rfl⟩
def mX6_taken : fw_M := (yX6_taken, cX6_taken, 2, (some .int), 6, 1, 4, 93, 0, 0)
set_option maxRecDepth 20000 in
theorem mv_X6_taken : fw_mv mX6_taken 1 := ⟨⟨fw_mem 1097 rfl rfl, fw_mem 72 (by decide +kernel) rfl, ⟨by decide +kernel, by decide +kernel, by decide +kernel⟩, rfl⟩, ⟨fw_mem 1095 (by decide +kernel) rfl, fw_mem 1096 (by decide +kernel) rfl⟩, ⟨_, _, _, fw_cls6⟩, by decide⟩
theorem pl_X6_taken : plainName (fw_mN mX6_taken).cls = true ∧ (fw_mN mX6_taken).cls = fw_cn (fw_mO mX6_taken) := ⟨by decide +kernel, rfl⟩
def mX6_room : fw_M := (yX6_room, cX6_room, 4, (some .int), 6, 1, 2, 43, 0, 0)
set_option maxRecDepth 20000 in
theorem mv_X6_room : fw_mv mX6_room 2 := ⟨⟨fw_mem 1105 rfl rfl, fw_mem 72 (by decide +kernel) rfl, ⟨by decide +kernel, by decide +kernel, by decide +kernel⟩, rfl⟩, ⟨fw_mem 1103 (by decide +kernel) rfl, fw_mem 1104 (by decide +kernel) rfl⟩, ⟨_, _, _, fw_cls6⟩, by decide⟩
theorem pl_X6_room : plainName (fw_mN mX6_room).cls = true ∧ (fw_mN mX6_room).cls = fw_cn (fw_mO mX6_room) := ⟨by decide +kernel, rfl⟩
def mX6_cutsFile : fw_M := (yX6_cutsFile, cX6_cutsFile, 4, none, 6, 1, 2, 53, 0, 0)
set_option maxRecDepth 20000 in
theorem mv_X6_cutsFile : fw_mv mX6_cutsFile 1 := ⟨⟨fw_mem 1113 rfl rfl, fw_mem 72 (by decide +kernel) rfl, ⟨by decide +kernel, by decide +kernel, by decide +kernel⟩, rfl⟩, ⟨fw_mem 1112 (by decide +kernel) rfl, fw_mem 62 (by decide +kernel) rfl⟩, ⟨_, _, _, fw_cls6⟩, by decide⟩
theorem pl_X6_cutsFile : plainName (fw_mN mX6_cutsFile).cls = true ∧ (fw_mN mX6_cutsFile).cls = fw_cn (fw_mO mX6_cutsFile) := ⟨by decide +kernel, rfl⟩
def mX6_pieces : fw_M := (yX6_pieces, cX6_pieces, 6, (some .int), 6, 1, 5, 117, 0, 0)
set_option maxRecDepth 20000 in
theorem mv_X6_pieces : fw_mv mX6_pieces 3 := ⟨⟨fw_mem 1109 rfl rfl, fw_mem 72 (by decide +kernel) rfl, ⟨by decide +kernel, by decide +kernel, by decide +kernel⟩, rfl⟩, ⟨fw_mem 1107 (by decide +kernel) rfl, fw_mem 1108 (by decide +kernel) rfl⟩, ⟨_, _, _, fw_cls6⟩, by decide⟩
theorem pl_X6_pieces : plainName (fw_mN mX6_pieces).cls = true ∧ (fw_mN mX6_pieces).cls = fw_cn (fw_mO mX6_pieces) := ⟨by decide +kernel, rfl⟩
def mX6_isElsewhere : fw_M := (yX6_isElsewhere, cX6_isElsewhere, 7, (some .boolean), 6, 1, 1, 26, 0, 0)
set_option maxRecDepth 20000 in
theorem mv_X6_isElsewhere : fw_mv mX6_isElsewhere 3 := ⟨⟨fw_mem 1121 rfl rfl, fw_mem 72 (by decide +kernel) rfl, ⟨by decide +kernel, by decide +kernel, by decide +kernel⟩, rfl⟩, ⟨fw_mem 1120 (by decide +kernel) rfl, fw_mem 63 (by decide +kernel) rfl⟩, ⟨_, _, _, fw_cls6⟩, by decide⟩
theorem pl_X6_isElsewhere : plainName (fw_mN mX6_isElsewhere).cls = true ∧ (fw_mN mX6_isElsewhere).cls = fw_cn (fw_mO mX6_isElsewhere) := ⟨by decide +kernel, rfl⟩
def mX6_fetch : fw_M := (yX6_fetch, cX6_fetch, 4, (some .int), 6, 1, 5, 117, 0, 0)
set_option maxRecDepth 20000 in
theorem mv_X6_fetch : fw_mv mX6_fetch 2 := ⟨⟨fw_mem 1117 rfl rfl, fw_mem 72 (by decide +kernel) rfl, ⟨by decide +kernel, by decide +kernel, by decide +kernel⟩, rfl⟩, ⟨fw_mem 1115 (by decide +kernel) rfl, fw_mem 1116 (by decide +kernel) rfl⟩, ⟨_, _, _, fw_cls6⟩, by decide⟩
theorem pl_X6_fetch : plainName (fw_mN mX6_fetch).cls = true ∧ (fw_mN mX6_fetch).cls = fw_cn (fw_mO mX6_fetch) := ⟨by decide +kernel, rfl⟩
def mX6_away : fw_M := (yX6_away, cX6_away, 7, (some .int), 6, 1, 5, 117, 0, 0)
set_option maxRecDepth 20000 in
theorem mv_X6_away : fw_mv mX6_away 2 := ⟨⟨fw_mem 1125 rfl rfl, fw_mem 72 (by decide +kernel) rfl, ⟨by decide +kernel, by decide +kernel, by decide +kernel⟩, rfl⟩, ⟨fw_mem 1123 (by decide +kernel) rfl, fw_mem 1124 (by decide +kernel) rfl⟩, ⟨_, _, _, fw_cls6⟩, by decide⟩
theorem pl_X6_away : plainName (fw_mN mX6_away).cls = true ∧ (fw_mN mX6_away).cls = fw_cn (fw_mO mX6_away) := ⟨by decide +kernel, rfl⟩
def mX6_night : fw_M := (yX6_night, cX6_night, 2, (some .int), 6, 1, 0, 0, 0, 0)
set_option maxRecDepth 20000 in
theorem mv_X6_night : fw_mv mX6_night 0 := ⟨⟨fw_mem 1129 rfl rfl, fw_mem 72 (by decide +kernel) rfl, ⟨by decide +kernel, by decide +kernel, by decide +kernel⟩, rfl⟩, ⟨fw_mem 1127 (by decide +kernel) rfl, fw_mem 1128 (by decide +kernel) rfl⟩, ⟨_, _, _, fw_cls6⟩, by decide⟩
theorem pl_X6_night : plainName (fw_mN mX6_night).cls = true ∧ (fw_mN mX6_night).cls = fw_cn (fw_mO mX6_night) := ⟨by decide +kernel, rfl⟩
def mX6_share : fw_M := (yX6_share, cX6_share, 3, (some .int), 6, 1, 2, 42, 0, 0)
set_option maxRecDepth 20000 in
theorem mv_X6_share : fw_mv mX6_share 2 := ⟨⟨fw_mem 1133 rfl rfl, fw_mem 72 (by decide +kernel) rfl, ⟨by decide +kernel, by decide +kernel, by decide +kernel⟩, rfl⟩, ⟨fw_mem 1131 (by decide +kernel) rfl, fw_mem 1132 (by decide +kernel) rfl⟩, ⟨_, _, _, fw_cls6⟩, by decide⟩
theorem pl_X6_share : plainName (fw_mN mX6_share).cls = true ∧ (fw_mN mX6_share).cls = fw_cn (fw_mO mX6_share) := ⟨by decide +kernel, rfl⟩
def mX6_take : fw_M := (yX6_take, cX6_take, 2, (some .int), 6, 1, 1, 22, 0, 0)
set_option maxRecDepth 20000 in
theorem mv_X6_take : fw_mv mX6_take 1 := ⟨⟨fw_mem 1137 rfl rfl, fw_mem 72 (by decide +kernel) rfl, ⟨by decide +kernel, by decide +kernel, by decide +kernel⟩, rfl⟩, ⟨fw_mem 1135 (by decide +kernel) rfl, fw_mem 1136 (by decide +kernel) rfl⟩, ⟨_, _, _, fw_cls6⟩, by decide⟩
theorem pl_X6_take : plainName (fw_mN mX6_take).cls = true ∧ (fw_mN mX6_take).cls = fw_cn (fw_mO mX6_take) := ⟨by decide +kernel, rfl⟩
def mX6_could : fw_M := (yX6_could, cX6_could, 7, (some .int), 6, 1, 6, 140, 0, 0)
set_option maxRecDepth 20000 in
theorem mv_X6_could : fw_mv mX6_could 4 := ⟨⟨fw_mem 1141 rfl rfl, fw_mem 72 (by decide +kernel) rfl, ⟨by decide +kernel, by decide +kernel, by decide +kernel⟩, rfl⟩, ⟨fw_mem 1139 (by decide +kernel) rfl, fw_mem 1140 (by decide +kernel) rfl⟩, ⟨_, _, _, fw_cls6⟩, by decide⟩
theorem pl_X6_could : plainName (fw_mN mX6_could).cls = true ∧ (fw_mN mX6_could).cls = fw_cn (fw_mO mX6_could) := ⟨by decide +kernel, rfl⟩
def mX6_power : fw_M := (yX6_power, cX6_power, 5, (some .long), 6, 1, 0, 0, 0, 0)
set_option maxRecDepth 20000 in
theorem mv_X6_power : fw_mt mX6_power 2 := ⟨⟨fw_mem 1150 rfl rfl, fw_mem 72 (by decide +kernel) rfl, ⟨by decide +kernel, by decide +kernel, by decide +kernel⟩, rfl⟩, fw_mem 1149 (by decide +kernel) rfl⟩
theorem pl_X6_power : plainName (fw_mN mX6_power).cls = true ∧ (fw_mN mX6_power).cls = fw_cn (fw_mO mX6_power) := ⟨by decide +kernel, rfl⟩
def mX6_choose : fw_M := (yX6_choose, cX6_choose, 5, (some .long), 6, 1, 0, 0, 0, 0)
set_option maxRecDepth 20000 in
theorem mv_X6_choose : fw_mt mX6_choose 2 := ⟨⟨fw_mem 1153 rfl rfl, fw_mem 72 (by decide +kernel) rfl, ⟨by decide +kernel, by decide +kernel, by decide +kernel⟩, rfl⟩, fw_mem 1152 (by decide +kernel) rfl⟩
theorem pl_X6_choose : plainName (fw_mN mX6_choose).cls = true ∧ (fw_mN mX6_choose).cls = fw_cn (fw_mO mX6_choose) := ⟨by decide +kernel, rfl⟩
def mX6_odd : fw_M := (yX6_odd, cX6_odd, 9, (some .long), 6, 1, 2, 43, 0, 0)
set_option maxRecDepth 20000 in
theorem mv_X6_odd : fw_mv mX6_odd 3 := ⟨⟨fw_mem 1145 rfl rfl, fw_mem 72 (by decide +kernel) rfl, ⟨by decide +kernel, by decide +kernel, by decide +kernel⟩, rfl⟩, ⟨fw_mem 1143 (by decide +kernel) rfl, fw_mem 1144 (by decide +kernel) rfl⟩, ⟨_, _, _, fw_cls6⟩, by decide⟩
theorem pl_X6_odd : plainName (fw_mN mX6_odd).cls = true ∧ (fw_mN mX6_odd).cls = fw_cn (fw_mO mX6_odd) := ⟨by decide +kernel, rfl⟩
def mX6_count : fw_M := (yX6_count, cX6_count, 5, (some .int), 6, 1, 4, 93, 0, 0)
set_option maxRecDepth 20000 in
theorem mv_X6_count : fw_mv mX6_count 1 := ⟨⟨fw_mem 1157 rfl rfl, fw_mem 72 (by decide +kernel) rfl, ⟨by decide +kernel, by decide +kernel, by decide +kernel⟩, rfl⟩, ⟨fw_mem 1155 (by decide +kernel) rfl, fw_mem 1156 (by decide +kernel) rfl⟩, ⟨_, _, _, fw_cls6⟩, by decide⟩
theorem pl_X6_count : plainName (fw_mN mX6_count).cls = true ∧ (fw_mN mX6_count).cls = fw_cn (fw_mO mX6_count) := ⟨by decide +kernel, rfl⟩
def mX6_trace : fw_M := (yX6_trace, cX6_trace, 1, (some .long), 6, 1, 0, 0, 0, 0)
set_option maxRecDepth 20000 in
theorem mv_X6_trace : fw_mv mX6_trace 0 := ⟨⟨fw_mem 1161 rfl rfl, fw_mem 72 (by decide +kernel) rfl, ⟨by decide +kernel, by decide +kernel, by decide +kernel⟩, rfl⟩, ⟨fw_mem 1159 (by decide +kernel) rfl, fw_mem 1160 (by decide +kernel) rfl⟩, ⟨_, _, _, fw_cls6⟩, by decide⟩
theorem pl_X6_trace : plainName (fw_mN mX6_trace).cls = true ∧ (fw_mN mX6_trace).cls = fw_cn (fw_mO mX6_trace) := ⟨by decide +kernel, rfl⟩
theorem lk_0_3 : Cond.methodLink RX0 3 Lib.objectInit ∈ fw_tbl := fw_mem 94 (by decide +kernel) rfl
theorem lk_1_3 : Cond.methodLink RX1 3 Lib.objectInit ∈ fw_tbl := fw_mem 87 (by decide +kernel) rfl
theorem lk_1_41 : Cond.methodLink RX1 41 yX1_placeOf ∈ fw_tbl := fw_mem 366 (by decide +kernel) rfl
theorem lk_1_51 : Cond.methodLink RX1 51 yX1_knownOf ∈ fw_tbl := fw_mem 362 (by decide +kernel) rfl
theorem lk_1_54 : Cond.methodLink RX1 54 yX1_changeOf ∈ fw_tbl := fw_mem 452 (by decide +kernel) rfl
theorem lk_1_73 : Cond.methodLink RX1 73 Lib.Math.max.name ∈ fw_tbl := fw_mem 456 (by decide +kernel) rfl
theorem lk_1_79 : Cond.methodLink RX1 79 yX1_putInOrder ∈ fw_tbl := fw_mem 457 (by decide +kernel) rfl
theorem lk_1_83 : Cond.methodLink RX1 83 yX1_findLeftOut ∈ fw_tbl := fw_mem 466 (by decide +kernel) rfl
theorem lk_1_86 : Cond.methodLink RX1 86 yX1_inOrder ∈ fw_tbl := fw_mem 442 (by decide +kernel) rfl
theorem lk_1_90 : Cond.methodLink RX1 90 yX0_isAheadOf ∈ fw_tbl := fw_mem 461 (by decide +kernel) rfl
theorem lk_1_94 : Cond.methodLink RX1 94 yX0_slot ∈ fw_tbl := fw_mem 465 (by decide +kernel) rfl
theorem lk_1_98 : Cond.methodLink RX1 98 yX1_knows ∈ fw_tbl := fw_mem 443 (by decide +kernel) rfl
theorem lk_1_102 : Cond.methodLink RX1 102 arraycopyName ∈ fw_tbl := fw_mem 703 (by decide +kernel) rfl
theorem lk_1_108 : Cond.methodLink RX1 108 yX1_standsOnLeftOut ∈ fw_tbl := fw_mem 470 (by decide +kernel) rfl
theorem lk_1_111 : Cond.methodLink RX1 111 Lib.Math.min.name ∈ fw_tbl := fw_mem 474 (by decide +kernel) rfl
theorem lk_2_3 : Cond.methodLink RX2 3 Lib.objectInit ∈ fw_tbl := fw_mem 229 (by decide +kernel) rfl
theorem lk_2_9 : Cond.methodLink RX2 9 Lib.Math.max.name ∈ fw_tbl := fw_mem 230 (by decide +kernel) rfl
theorem lk_2_32 : Cond.methodLink RX2 32 yX2_placeOf ∈ fw_tbl := fw_mem 513 (by decide +kernel) rfl
theorem lk_2_36 : Cond.methodLink RX2 36 yX2_has ∈ fw_tbl := fw_mem 509 (by decide +kernel) rfl
theorem lk_2_44 : Cond.methodLink RX2 44 yX2_add ∈ fw_tbl := fw_mem 505 (by decide +kernel) rfl
theorem lk_2_48 : Cond.methodLink RX2 48 yX2_removeAt ∈ fw_tbl := fw_mem 670 (by decide +kernel) rfl
theorem lk_3_3 : Cond.methodLink RX3 3 Lib.objectInit ∈ fw_tbl := fw_mem 256 (by decide +kernel) rfl
theorem lk_4_3 : Cond.methodLink RX4 3 Lib.objectInit ∈ fw_tbl := fw_mem 186 (by decide +kernel) rfl
theorem lk_4_44 : Cond.methodLink RX4 44 yX4_clear ∈ fw_tbl := fw_mem 350 (by decide +kernel) rfl
theorem lk_4_53 : Cond.methodLink RX4 53 yX1_inOrder ∈ fw_tbl := fw_mem 354 (by decide +kernel) rfl
theorem lk_4_57 : Cond.methodLink RX4 57 yX1_knows ∈ fw_tbl := fw_mem 358 (by decide +kernel) rfl
theorem lk_4_61 : Cond.methodLink RX4 61 yX1_isLeftOut ∈ fw_tbl := fw_mem 369 (by decide +kernel) rfl
theorem lk_4_65 : Cond.methodLink RX4 65 yX4_apply ∈ fw_tbl := fw_mem 373 (by decide +kernel) rfl
theorem lk_4_69 : Cond.methodLink RX4 69 yX4_nameAll ∈ fw_tbl := fw_mem 421 (by decide +kernel) rfl
theorem lk_4_78 : Cond.methodLink RX4 78 yX4_applyNew ∈ fw_tbl := fw_mem 377 (by decide +kernel) rfl
theorem lk_4_87 : Cond.methodLink RX4 87 yX4_mayMove ∈ fw_tbl := fw_mem 389 (by decide +kernel) rfl
theorem lk_4_91 : Cond.methodLink RX4 91 yX4_put ∈ fw_tbl := fw_mem 385 (by decide +kernel) rfl
theorem lk_4_94 : Cond.methodLink RX4 94 yX4_applyGone ∈ fw_tbl := fw_mem 397 (by decide +kernel) rfl
theorem lk_4_97 : Cond.methodLink RX4 97 yX4_applyWrite ∈ fw_tbl := fw_mem 401 (by decide +kernel) rfl
theorem lk_4_100 : Cond.methodLink RX4 100 yX4_isFolder ∈ fw_tbl := fw_mem 381 (by decide +kernel) rfl
theorem lk_4_108 : Cond.methodLink RX4 108 yX4_isWithin ∈ fw_tbl := fw_mem 393 (by decide +kernel) rfl
theorem lk_4_111 : Cond.methodLink RX4 111 yX4_holdRow ∈ fw_tbl := fw_mem 405 (by decide +kernel) rfl
theorem lk_4_115 : Cond.methodLink RX4 115 yX4_rowOf ∈ fw_tbl := fw_mem 409 (by decide +kernel) rfl
theorem lk_4_119 : Cond.methodLink RX4 119 yX0_standsOn ∈ fw_tbl := fw_mem 413 (by decide +kernel) rfl
theorem lk_4_122 : Cond.methodLink RX4 122 yX0_slot ∈ fw_tbl := fw_mem 417 (by decide +kernel) rfl
theorem lk_4_126 : Cond.methodLink RX4 126 yX4_nextUnnamed ∈ fw_tbl := fw_mem 425 (by decide +kernel) rfl
theorem lk_4_130 : Cond.methodLink RX4 130 yX4_freeNameFor ∈ fw_tbl := fw_mem 429 (by decide +kernel) rfl
theorem lk_4_134 : Cond.methodLink RX4 134 yX4_thingNamed ∈ fw_tbl := fw_mem 433 (by decide +kernel) rfl
theorem lk_5_3 : Cond.methodLink RX5 3 Lib.objectInit ∈ fw_tbl := fw_mem 79 (by decide +kernel) rfl
theorem lk_5_11 : Cond.methodLink RX5 11 yX1_init ∈ fw_tbl := fw_mem 84 (by decide +kernel) rfl
theorem lk_5_18 : Cond.methodLink RX5 18 yX4_init ∈ fw_tbl := fw_mem 183 (by decide +kernel) rfl
theorem lk_5_31 : Cond.methodLink RX5 31 yX2_init ∈ fw_tbl := fw_mem 226 (by decide +kernel) rfl
theorem lk_5_52 : Cond.methodLink RX5 52 yX5_beginAnew ∈ fw_tbl := fw_mem 277 (by decide +kernel) rfl
theorem lk_5_62 : Cond.methodLink RX5 62 yX5_isMachine ∈ fw_tbl := fw_mem 332 (by decide +kernel) rfl
theorem lk_5_66 : Cond.methodLink RX5 66 yX5_isThing ∈ fw_tbl := fw_mem 336 (by decide +kernel) rfl
theorem lk_5_69 : Cond.methodLink RX5 69 yX5_isOwnName ∈ fw_tbl := fw_mem 339 (by decide +kernel) rfl
theorem lk_5_72 : Cond.methodLink RX5 72 yX5_growNow ∈ fw_tbl := fw_mem 342 (by decide +kernel) rfl
theorem lk_5_75 : Cond.methodLink RX5 75 yX4_isFolder ∈ fw_tbl := fw_mem 437 (by decide +kernel) rfl
theorem lk_5_78 : Cond.methodLink RX5 78 yX1_leastUnmade ∈ fw_tbl := fw_mem 438 (by decide +kernel) rfl
theorem lk_5_82 : Cond.methodLink RX5 82 yX1_isFull ∈ fw_tbl := fw_mem 444 (by decide +kernel) rfl
theorem lk_5_85 : Cond.methodLink RX5 85 yX1_append ∈ fw_tbl := fw_mem 448 (by decide +kernel) rfl
theorem lk_5_100 : Cond.methodLink RX5 100 yX4_mayMove ∈ fw_tbl := fw_mem 481 (by decide +kernel) rfl
theorem lk_5_107 : Cond.methodLink RX5 107 yX4_isThere ∈ fw_tbl := fw_mem 486 (by decide +kernel) rfl
theorem lk_5_110 : Cond.methodLink RX5 110 yX4_isFile ∈ fw_tbl := fw_mem 494 (by decide +kernel) rfl
theorem lk_5_113 : Cond.methodLink RX5 113 yX2_empty ∈ fw_tbl := fw_mem 285 (by decide +kernel) rfl
theorem lk_5_116 : Cond.methodLink RX5 116 yX2_addCutOf ∈ fw_tbl := fw_mem 498 (by decide +kernel) rfl
theorem lk_5_120 : Cond.methodLink RX5 120 yX5_hasRoomForWanted ∈ fw_tbl := fw_mem 517 (by decide +kernel) rfl
theorem lk_5_130 : Cond.methodLink RX5 130 yX2_addAll ∈ fw_tbl := fw_mem 525 (by decide +kernel) rfl
theorem lk_5_134 : Cond.methodLink RX5 134 yX1_passOn ∈ fw_tbl := fw_mem 533 (by decide +kernel) rfl
theorem lk_5_141 : Cond.methodLink RX5 141 yX1_changeOf ∈ fw_tbl := fw_mem 545 (by decide +kernel) rfl
theorem lk_5_154 : Cond.methodLink RX5 154 yX0_groundSize ∈ fw_tbl := fw_mem 546 (by decide +kernel) rfl
theorem lk_5_161 : Cond.methodLink RX5 161 yX1_isLeftOut ∈ fw_tbl := fw_mem 550 (by decide +kernel) rfl
theorem lk_5_165 : Cond.methodLink RX5 165 yX5_isDay ∈ fw_tbl := fw_mem 555 (by decide +kernel) rfl
theorem lk_5_168 : Cond.methodLink RX5 168 yX4_grow ∈ fw_tbl := fw_mem 346 (by decide +kernel) rfl
theorem lk_5_181 : Cond.methodLink RX5 181 yX4_rowOf ∈ fw_tbl := fw_mem 563 (by decide +kernel) rfl
theorem lk_5_184 : Cond.methodLink RX5 184 yX5_byteOf ∈ fw_tbl := fw_mem 564 (by decide +kernel) rfl
theorem lk_5_188 : Cond.methodLink RX5 188 yX5_bulkAsFile ∈ fw_tbl := fw_mem 569 (by decide +kernel) rfl
theorem lk_5_191 : Cond.methodLink RX5 191 yX5_bulkAsFolder ∈ fw_tbl := fw_mem 582 (by decide +kernel) rfl
theorem lk_5_194 : Cond.methodLink RX5 194 yX5_bulkAsLink ∈ fw_tbl := fw_mem 591 (by decide +kernel) rfl
theorem lk_5_197 : Cond.methodLink RX5 197 yX5_bulkAsHeld ∈ fw_tbl := fw_mem 596 (by decide +kernel) rfl
theorem lk_5_200 : Cond.methodLink RX5 200 yX5_bulkAsClash ∈ fw_tbl := fw_mem 601 (by decide +kernel) rfl
theorem lk_5_203 : Cond.methodLink RX5 203 yX5_bulkAsThing ∈ fw_tbl := fw_mem 574 (by decide +kernel) rfl
theorem lk_5_206 : Cond.methodLink RX5 206 yX4_thingNamed ∈ fw_tbl := fw_mem 614 (by decide +kernel) rfl
theorem lk_5_210 : Cond.methodLink RX5 210 yX4_byteTotal ∈ fw_tbl := fw_mem 619 (by decide +kernel) rfl
theorem lk_5_217 : Cond.methodLink RX5 217 yX1_knownOf ∈ fw_tbl := fw_mem 629 (by decide +kernel) rfl
theorem lk_5_220 : Cond.methodLink RX5 220 Lib.Math.abs.name ∈ fw_tbl := fw_mem 630 (by decide +kernel) rfl
theorem lk_5_225 : Cond.methodLink RX5 225 yX1_setApart ∈ fw_tbl := fw_mem 637 (by decide +kernel) rfl
theorem lk_5_234 : Cond.methodLink RX5 234 Lib.Math.max.name ∈ fw_tbl := fw_mem 649 (by decide +kernel) rfl
theorem lk_5_241 : Cond.methodLink RX5 241 yX5_wantPiecesOf ∈ fw_tbl := fw_mem 658 (by decide +kernel) rfl
theorem lk_5_244 : Cond.methodLink RX5 244 yX2_removeAll ∈ fw_tbl := fw_mem 666 (by decide +kernel) rfl
theorem lk_5_247 : Cond.methodLink RX5 247 yX5_othersHaveWanted ∈ fw_tbl := fw_mem 678 (by decide +kernel) rfl
theorem lk_5_250 : Cond.methodLink RX5 250 yX2_keepOnly ∈ fw_tbl := fw_mem 687 (by decide +kernel) rfl
theorem lk_5_253 : Cond.methodLink RX5 253 yX5_gatherPiecesOfOthers ∈ fw_tbl := fw_mem 691 (by decide +kernel) rfl
theorem lk_5_256 : Cond.methodLink RX5 256 yX1_nextDay ∈ fw_tbl := fw_mem 699 (by decide +kernel) rfl
theorem lk_5_259 : Cond.methodLink RX5 259 yX5_isPerson ∈ fw_tbl := fw_mem 710 (by decide +kernel) rfl
theorem lk_5_263 : Cond.methodLink RX5 263 yX3_begin ∈ fw_tbl := fw_mem 713 (by decide +kernel) rfl
theorem lk_5_272 : Cond.methodLink RX5 272 yX3_holds ∈ fw_tbl := fw_mem 725 (by decide +kernel) rfl
theorem lk_5_278 : Cond.methodLink RX5 278 yX4_isWithin ∈ fw_tbl := fw_mem 729 (by decide +kernel) rfl
theorem lk_5_285 : Cond.methodLink RX5 285 yX5_power ∈ fw_tbl := fw_mem 736 (by decide +kernel) rfl
theorem lk_5_289 : Cond.methodLink RX5 289 yX1_madeOnDay ∈ fw_tbl := fw_mem 739 (by decide +kernel) rfl
theorem lk_5_292 : Cond.methodLink RX5 292 yX5_waysOfAtLeast ∈ fw_tbl := fw_mem 743 (by decide +kernel) rfl
theorem lk_5_299 : Cond.methodLink RX5 299 yX3_holding ∈ fw_tbl := fw_mem 753 (by decide +kernel) rfl
theorem lk_5_302 : Cond.methodLink RX5 302 yX1_leftOutInAll ∈ fw_tbl := fw_mem 757 (by decide +kernel) rfl
theorem lk_5_308 : Cond.methodLink RX5 308 yX1_empty ∈ fw_tbl := fw_mem 281 (by decide +kernel) rfl
theorem lk_5_311 : Cond.methodLink RX5 311 yX4_byteCount ∈ fw_tbl := fw_mem 578 (by decide +kernel) rfl
theorem lk_5_315 : Cond.methodLink RX5 315 yX4_childCount ∈ fw_tbl := fw_mem 587 (by decide +kernel) rfl
theorem lk_5_324 : Cond.methodLink RX5 324 yX5_addPiecesOf ∈ fw_tbl := fw_mem 662 (by decide +kernel) rfl
theorem lk_5_328 : Cond.methodLink RX5 328 yX2_bytesNotIn ∈ fw_tbl := fw_mem 521 (by decide +kernel) rfl
theorem lk_5_337 : Cond.methodLink RX5 337 yX2_has ∈ fw_tbl := fw_mem 682 (by decide +kernel) rfl
theorem lk_5_341 : Cond.methodLink RX5 341 yX5_choose ∈ fw_tbl := fw_mem 746 (by decide +kernel) rfl
theorem lk_6_1 : Cond.methodLink RX6 1 Lib.objectInit ∈ fw_tbl := fw_mem 770 (by decide +kernel) rfl
theorem lk_6_103 : Cond.methodLink RX6 103 yX6_begins ∈ fw_tbl := fw_mem 771 (by decide +kernel) rfl
theorem lk_6_115 : Cond.methodLink RX6 115 yX6_in ∈ fw_tbl := fw_mem 888 (by decide +kernel) rfl
theorem lk_6_119 : Cond.methodLink RX6 119 yX6_changeAt ∈ fw_tbl := fw_mem 926 (by decide +kernel) rfl
theorem lk_6_123 : Cond.methodLink RX6 123 yX6_restarts ∈ fw_tbl := fw_mem 918 (by decide +kernel) rfl
theorem lk_6_126 : Cond.methodLink RX6 126 yX6_first ∈ fw_tbl := fw_mem 922 (by decide +kernel) rfl
theorem lk_6_130 : Cond.methodLink RX6 130 yX6_liesIn ∈ fw_tbl := fw_mem 941 (by decide +kernel) rfl
theorem lk_6_137 : Cond.methodLink RX6 137 yX6_isFolder ∈ fw_tbl := fw_mem 933 (by decide +kernel) rfl
theorem lk_6_141 : Cond.methodLink RX6 141 yX6_puts ∈ fw_tbl := fw_mem 937 (by decide +kernel) rfl
theorem lk_6_145 : Cond.methodLink RX6 145 yX6_goes ∈ fw_tbl := fw_mem 945 (by decide +kernel) rfl
theorem lk_6_149 : Cond.methodLink RX6 149 yX6_writes ∈ fw_tbl := fw_mem 949 (by decide +kernel) rfl
theorem lk_6_153 : Cond.methodLink RX6 153 yX6_leaves ∈ fw_tbl := fw_mem 914 (by decide +kernel) rfl
theorem lk_6_156 : Cond.methodLink RX6 156 yX6_does ∈ fw_tbl := fw_mem 929 (by decide +kernel) rfl
theorem lk_6_160 : Cond.methodLink RX6 160 yX6_names ∈ fw_tbl := fw_mem 953 (by decide +kernel) rfl
theorem lk_6_163 : Cond.methodLink RX6 163 yX6_isAhead ∈ fw_tbl := fw_mem 957 (by decide +kernel) rfl
theorem lk_6_166 : Cond.methodLink RX6 166 yX6_nextNameless ∈ fw_tbl := fw_mem 961 (by decide +kernel) rfl
theorem lk_6_170 : Cond.methodLink RX6 170 yX6_isTaken ∈ fw_tbl := fw_mem 965 (by decide +kernel) rfl
theorem lk_6_173 : Cond.methodLink RX6 173 yX6_tells ∈ fw_tbl := fw_mem 910 (by decide +kernel) rfl
theorem lk_6_176 : Cond.methodLink RX6 176 yX6_tellsNow ∈ fw_tbl := fw_mem 906 (by decide +kernel) rfl
theorem lk_6_179 : Cond.methodLink RX6 179 yX6_isMachine ∈ fw_tbl := fw_mem 899 (by decide +kernel) rfl
theorem lk_6_182 : Cond.methodLink RX6 182 yX6_isThing ∈ fw_tbl := fw_mem 903 (by decide +kernel) rfl
theorem lk_6_185 : Cond.methodLink RX6 185 yX6_isNew ∈ fw_tbl := fw_mem 969 (by decide +kernel) rfl
theorem lk_6_188 : Cond.methodLink RX6 188 yX6_makes ∈ fw_tbl := fw_mem 973 (by decide +kernel) rfl
theorem lk_6_194 : Cond.methodLink RX6 194 yX6_byteOf ∈ fw_tbl := fw_mem 993 (by decide +kernel) rfl
theorem lk_6_203 : Cond.methodLink RX6 203 yX6_pieceAt ∈ fw_tbl := fw_mem 1010 (by decide +kernel) rfl
theorem lk_6_207 : Cond.methodLink RX6 207 yX6_cuts ∈ fw_tbl := fw_mem 989 (by decide +kernel) rfl
theorem lk_6_211 : Cond.methodLink RX6 211 yX6_isFile ∈ fw_tbl := fw_mem 998 (by decide +kernel) rfl
theorem lk_6_214 : Cond.methodLink RX6 214 yX6_bytesAt ∈ fw_tbl := fw_mem 1002 (by decide +kernel) rfl
theorem lk_6_218 : Cond.methodLink RX6 218 yX6_lacking ∈ fw_tbl := fw_mem 1006 (by decide +kernel) rfl
theorem lk_6_221 : Cond.methodLink RX6 221 yX6_takes ∈ fw_tbl := fw_mem 1014 (by decide +kernel) rfl
theorem lk_6_224 : Cond.methodLink RX6 224 yX6_isDay ∈ fw_tbl := fw_mem 1034 (by decide +kernel) rfl
theorem lk_6_227 : Cond.methodLink RX6 227 yX6_tellsOf ∈ fw_tbl := fw_mem 1038 (by decide +kernel) rfl
theorem lk_6_230 : Cond.methodLink RX6 230 yX6_sizeOf ∈ fw_tbl := fw_mem 1046 (by decide +kernel) rfl
theorem lk_6_233 : Cond.methodLink RX6 233 yX6_held ∈ fw_tbl := fw_mem 1054 (by decide +kernel) rfl
theorem lk_6_250 : Cond.methodLink RX6 250 yX6_inside ∈ fw_tbl := fw_mem 1063 (by decide +kernel) rfl
theorem lk_6_259 : Cond.methodLink RX6 259 yX6_left ∈ fw_tbl := fw_mem 1098 (by decide +kernel) rfl
theorem lk_6_263 : Cond.methodLink RX6 263 yX6_cutsFile ∈ fw_tbl := fw_mem 1110 (by decide +kernel) rfl
theorem lk_6_266 : Cond.methodLink RX6 266 yX6_isElsewhere ∈ fw_tbl := fw_mem 1118 (by decide +kernel) rfl
theorem lk_6_274 : Cond.methodLink RX6 274 yX6_power ∈ fw_tbl := fw_mem 1148 (by decide +kernel) rfl
theorem lk_6_278 : Cond.methodLink RX6 278 yX6_choose ∈ fw_tbl := fw_mem 1151 (by decide +kernel) rfl
theorem lw_max : Cond.static Lib.Math.max.name ∈ fw_tbl ∧ Cond.initialized "java/lang/Math" ∈ fw_tbl ∧ Cond.code Lib.Math.max.name Lib.Math.max.code 2 (some .int) ∈ fw_tbl := ⟨fw_mem 231 (by decide +kernel) rfl, fw_mem 70 (by decide +kernel) rfl, fw_mem 232 (by decide +kernel) rfl⟩
theorem lw_min : Cond.static Lib.Math.min.name ∈ fw_tbl ∧ Cond.initialized "java/lang/Math" ∈ fw_tbl ∧ Cond.code Lib.Math.min.name Lib.Math.min.code 2 (some .int) ∈ fw_tbl := ⟨fw_mem 475 (by decide +kernel) rfl, fw_mem 70 (by decide +kernel) rfl, fw_mem 476 (by decide +kernel) rfl⟩
theorem lw_abs : Cond.static Lib.Math.abs.name ∈ fw_tbl ∧ Cond.initialized "java/lang/Math" ∈ fw_tbl ∧ Cond.code Lib.Math.abs.name Lib.Math.abs.code 1 (some .int) ∈ fw_tbl := ⟨fw_mem 631 (by decide +kernel) rfl, fw_mem 70 (by decide +kernel) rfl, fw_mem 632 (by decide +kernel) rfl⟩
theorem ff_0_9 : fw_fld 0 9 0 12 0 := ⟨_, _, _, fw_cls0, by decide, fw_mem 95 (by decide +kernel) rfl, by decide⟩
theorem ff_0_15 : fw_fld 0 15 0 12 1 := ⟨_, _, _, fw_cls0, by decide, fw_mem 97 (by decide +kernel) rfl, by decide⟩
theorem ff_0_19 : fw_fld 0 19 0 12 2 := ⟨_, _, _, fw_cls0, by decide, fw_mem 99 (by decide +kernel) rfl, by decide⟩
theorem ff_0_22 : fw_fld 0 22 0 12 5 := ⟨_, _, _, fw_cls0, by decide, fw_mem 108 (by decide +kernel) rfl, by decide⟩
theorem ff_1_11 : fw_fld 1 11 1 8 0 := ⟨_, _, _, fw_cls1, by decide, fw_mem 149 (by decide +kernel) rfl, by decide⟩
theorem ff_1_17 : fw_fld 1 17 1 8 1 := ⟨_, _, _, fw_cls1, by decide, fw_mem 151 (by decide +kernel) rfl, by decide⟩
theorem ff_1_21 : fw_fld 1 21 1 8 2 := ⟨_, _, _, fw_cls1, by decide, fw_mem 152 (by decide +kernel) rfl, by decide⟩
theorem ff_1_24 : fw_fld 1 24 1 8 3 := ⟨_, _, _, fw_cls1, by decide, fw_mem 154 (by decide +kernel) rfl, by decide⟩
theorem ff_1_27 : fw_fld 1 27 1 8 4 := ⟨_, _, _, fw_cls1, by decide, fw_mem 155 (by decide +kernel) rfl, by decide⟩
theorem ff_1_30 : fw_fld 1 30 1 8 5 := ⟨_, _, _, fw_cls1, by decide, fw_mem 157 (by decide +kernel) rfl, by decide⟩
theorem ff_1_34 : fw_fld 1 34 1 8 6 := ⟨_, _, _, fw_cls1, by decide, fw_mem 159 (by decide +kernel) rfl, by decide⟩
theorem fp_1_34 : fw_fldW 1 34 1 8 6 .int := ⟨_, _, _, fw_cls1, by decide, fw_mem 159 (by decide +kernel) rfl, by decide, rfl, rfl⟩
theorem ff_1_38 : fw_fld 1 38 1 8 7 := ⟨_, _, _, fw_cls1, by decide, fw_mem 162 (by decide +kernel) rfl, by decide⟩
theorem fp_1_38 : fw_fldW 1 38 1 8 7 .int := ⟨_, _, _, fw_cls1, by decide, fw_mem 162 (by decide +kernel) rfl, by decide, rfl, rfl⟩
theorem ff_1_45 : fw_fld 1 45 0 12 2 := ⟨_, _, _, fw_cls0, by decide, fw_mem 100 (by decide +kernel) rfl, by decide⟩
theorem fp_1_45 : fw_fldW 1 45 0 12 2 .int := ⟨_, _, _, fw_cls0, by decide, fw_mem 100 (by decide +kernel) rfl, by decide, rfl, rfl⟩
theorem ff_1_48 : fw_fld 1 48 0 12 1 := ⟨_, _, _, fw_cls0, by decide, fw_mem 98 (by decide +kernel) rfl, by decide⟩
theorem fp_1_48 : fw_fldW 1 48 0 12 1 .int := ⟨_, _, _, fw_cls0, by decide, fw_mem 98 (by decide +kernel) rfl, by decide, rfl, rfl⟩
theorem ff_1_58 : fw_fld 1 58 0 12 3 := ⟨_, _, _, fw_cls0, by decide, fw_mem 103 (by decide +kernel) rfl, by decide⟩
theorem fp_1_58 : fw_fldW 1 58 0 12 3 .int := ⟨_, _, _, fw_cls0, by decide, fw_mem 103 (by decide +kernel) rfl, by decide, rfl, rfl⟩
theorem ff_1_61 : fw_fld 1 61 0 12 4 := ⟨_, _, _, fw_cls0, by decide, fw_mem 106 (by decide +kernel) rfl, by decide⟩
theorem fp_1_61 : fw_fldW 1 61 0 12 4 .int := ⟨_, _, _, fw_cls0, by decide, fw_mem 106 (by decide +kernel) rfl, by decide, rfl, rfl⟩
theorem ff_1_64 : fw_fld 1 64 0 12 6 := ⟨_, _, _, fw_cls0, by decide, fw_mem 111 (by decide +kernel) rfl, by decide⟩
theorem fp_1_64 : fw_fldW 1 64 0 12 6 .int := ⟨_, _, _, fw_cls0, by decide, fw_mem 111 (by decide +kernel) rfl, by decide, rfl, rfl⟩
theorem ff_1_67 : fw_fld 1 67 0 12 5 := ⟨_, _, _, fw_cls0, by decide, fw_mem 109 (by decide +kernel) rfl, by decide⟩
theorem fp_1_67 : fw_fldW 1 67 0 12 5 .int := ⟨_, _, _, fw_cls0, by decide, fw_mem 109 (by decide +kernel) rfl, by decide, rfl, rfl⟩
theorem ff_1_70 : fw_fld 1 70 0 12 0 := ⟨_, _, _, fw_cls0, by decide, fw_mem 96 (by decide +kernel) rfl, by decide⟩
theorem ff_2_15 : fw_fld 2 15 2 4 0 := ⟨_, _, _, fw_cls2, by decide, fw_mem 233 (by decide +kernel) rfl, by decide⟩
theorem ff_2_21 : fw_fld 2 21 2 4 1 := ⟨_, _, _, fw_cls2, by decide, fw_mem 235 (by decide +kernel) rfl, by decide⟩
theorem ff_2_25 : fw_fld 2 25 2 4 2 := ⟨_, _, _, fw_cls2, by decide, fw_mem 237 (by decide +kernel) rfl, by decide⟩
theorem fp_2_25 : fw_fldW 2 25 2 4 2 .int := ⟨_, _, _, fw_cls2, by decide, fw_mem 237 (by decide +kernel) rfl, by decide, rfl, rfl⟩
theorem ff_2_29 : fw_fld 2 29 2 4 3 := ⟨_, _, _, fw_cls2, by decide, fw_mem 239 (by decide +kernel) rfl, by decide⟩
theorem fp_2_29 : fw_fldW 2 29 2 4 3 .int := ⟨_, _, _, fw_cls2, by decide, fw_mem 239 (by decide +kernel) rfl, by decide, rfl, rfl⟩
theorem ff_3_9 : fw_fld 3 9 3 5 0 := ⟨_, _, _, fw_cls3, by decide, fw_mem 257 (by decide +kernel) rfl, by decide⟩
theorem ff_3_15 : fw_fld 3 15 3 5 1 := ⟨_, _, _, fw_cls3, by decide, fw_mem 258 (by decide +kernel) rfl, by decide⟩
theorem ff_3_18 : fw_fld 3 18 3 5 2 := ⟨_, _, _, fw_cls3, by decide, fw_mem 260 (by decide +kernel) rfl, by decide⟩
theorem ff_3_21 : fw_fld 3 21 3 5 3 := ⟨_, _, _, fw_cls3, by decide, fw_mem 262 (by decide +kernel) rfl, by decide⟩
theorem ff_3_24 : fw_fld 3 24 3 5 4 := ⟨_, _, _, fw_cls3, by decide, fw_mem 264 (by decide +kernel) rfl, by decide⟩
theorem fp_3_24 : fw_fldW 3 24 3 5 4 .int := ⟨_, _, _, fw_cls3, by decide, fw_mem 264 (by decide +kernel) rfl, by decide, rfl, rfl⟩
theorem ff_4_9 : fw_fld 4 9 4 10 1 := ⟨_, _, _, fw_cls4, by decide, fw_mem 188 (by decide +kernel) rfl, by decide⟩
theorem ff_4_15 : fw_fld 4 15 4 10 2 := ⟨_, _, _, fw_cls4, by decide, fw_mem 189 (by decide +kernel) rfl, by decide⟩
theorem ff_4_18 : fw_fld 4 18 4 10 3 := ⟨_, _, _, fw_cls4, by decide, fw_mem 190 (by decide +kernel) rfl, by decide⟩
theorem ff_4_22 : fw_fld 4 22 4 10 4 := ⟨_, _, _, fw_cls4, by decide, fw_mem 192 (by decide +kernel) rfl, by decide⟩
theorem ff_4_25 : fw_fld 4 25 4 10 5 := ⟨_, _, _, fw_cls4, by decide, fw_mem 194 (by decide +kernel) rfl, by decide⟩
theorem ff_4_28 : fw_fld 4 28 4 10 6 := ⟨_, _, _, fw_cls4, by decide, fw_mem 195 (by decide +kernel) rfl, by decide⟩
theorem ff_4_31 : fw_fld 4 31 4 10 7 := ⟨_, _, _, fw_cls4, by decide, fw_mem 197 (by decide +kernel) rfl, by decide⟩
theorem ff_4_34 : fw_fld 4 34 4 10 8 := ⟨_, _, _, fw_cls4, by decide, fw_mem 198 (by decide +kernel) rfl, by decide⟩
theorem ff_4_37 : fw_fld 4 37 4 10 9 := ⟨_, _, _, fw_cls4, by decide, fw_mem 200 (by decide +kernel) rfl, by decide⟩
theorem ff_4_40 : fw_fld 4 40 4 10 0 := ⟨_, _, _, fw_cls4, by decide, fw_mem 187 (by decide +kernel) rfl, by decide⟩
theorem ff_4_47 : fw_fld 4 47 1 8 6 := ⟨_, _, _, fw_cls1, by decide, fw_mem 160 (by decide +kernel) rfl, by decide⟩
theorem ff_4_73 : fw_fld 4 73 0 12 3 := ⟨_, _, _, fw_cls0, by decide, fw_mem 102 (by decide +kernel) rfl, by decide⟩
theorem ff_4_82 : fw_fld 4 82 0 12 4 := ⟨_, _, _, fw_cls0, by decide, fw_mem 105 (by decide +kernel) rfl, by decide⟩
theorem ff_4_85 : fw_fld 4 85 0 12 8 := ⟨_, _, _, fw_cls0, by decide, fw_mem 115 (by decide +kernel) rfl, by decide⟩
theorem ff_4_104 : fw_fld 4 104 0 12 7 := ⟨_, _, _, fw_cls0, by decide, fw_mem 114 (by decide +kernel) rfl, by decide⟩
theorem ff_4_106 : fw_fld 4 106 0 12 9 := ⟨_, _, _, fw_cls0, by decide, fw_mem 118 (by decide +kernel) rfl, by decide⟩
theorem ff_4_138 : fw_fld 4 138 1 8 0 := ⟨_, _, _, fw_cls1, by decide, fw_mem 150 (by decide +kernel) rfl, by decide⟩
theorem ff_4_142 : fw_fld 4 142 0 12 10 := ⟨_, _, _, fw_cls0, by decide, fw_mem 120 (by decide +kernel) rfl, by decide⟩
theorem ff_4_145 : fw_fld 4 145 0 12 11 := ⟨_, _, _, fw_cls0, by decide, fw_mem 122 (by decide +kernel) rfl, by decide⟩
theorem ff_5_12 : fw_fld 5 12 5 10 0 := ⟨_, _, _, fw_cls5, by decide, fw_mem 289 (by decide +kernel) rfl, by decide⟩
theorem ff_5_21 : fw_fld 5 21 5 10 1 := ⟨_, _, _, fw_cls5, by decide, fw_mem 290 (by decide +kernel) rfl, by decide⟩
theorem ff_5_27 : fw_fld 5 27 5 10 2 := ⟨_, _, _, fw_cls5, by decide, fw_mem 291 (by decide +kernel) rfl, by decide⟩
theorem ff_5_34 : fw_fld 5 34 5 10 3 := ⟨_, _, _, fw_cls5, by decide, fw_mem 292 (by decide +kernel) rfl, by decide⟩
theorem ff_5_38 : fw_fld 5 38 5 10 4 := ⟨_, _, _, fw_cls5, by decide, fw_mem 293 (by decide +kernel) rfl, by decide⟩
theorem ff_5_41 : fw_fld 5 41 5 10 5 := ⟨_, _, _, fw_cls5, by decide, fw_mem 294 (by decide +kernel) rfl, by decide⟩
theorem ff_5_48 : fw_fld 5 48 5 10 6 := ⟨_, _, _, fw_cls5, by decide, fw_mem 295 (by decide +kernel) rfl, by decide⟩
theorem ff_5_55 : fw_fld 5 55 5 10 7 := ⟨_, _, _, fw_cls5, by decide, fw_mem 296 (by decide +kernel) rfl, by decide⟩
theorem fp_5_55 : fw_fldW 5 55 5 10 7 .int := ⟨_, _, _, fw_cls5, by decide, fw_mem 296 (by decide +kernel) rfl, by decide, rfl, rfl⟩
theorem ff_5_59 : fw_fld 5 59 5 10 8 := ⟨_, _, _, fw_cls5, by decide, fw_mem 297 (by decide +kernel) rfl, by decide⟩
theorem fp_5_59 : fw_fldW 5 59 5 10 8 .int := ⟨_, _, _, fw_cls5, by decide, fw_mem 297 (by decide +kernel) rfl, by decide, rfl, rfl⟩
theorem ff_5_89 : fw_fld 5 89 0 12 7 := ⟨_, _, _, fw_cls0, by decide, fw_mem 113 (by decide +kernel) rfl, by decide⟩
theorem fp_5_89 : fw_fldW 5 89 0 12 7 .int := ⟨_, _, _, fw_cls0, by decide, fw_mem 113 (by decide +kernel) rfl, by decide, rfl, rfl⟩
theorem ff_5_94 : fw_fld 5 94 0 12 8 := ⟨_, _, _, fw_cls0, by decide, fw_mem 116 (by decide +kernel) rfl, by decide⟩
theorem fp_5_94 : fw_fldW 5 94 0 12 8 .int := ⟨_, _, _, fw_cls0, by decide, fw_mem 116 (by decide +kernel) rfl, by decide, rfl, rfl⟩
theorem ff_5_97 : fw_fld 5 97 0 12 9 := ⟨_, _, _, fw_cls0, by decide, fw_mem 117 (by decide +kernel) rfl, by decide⟩
theorem fp_5_97 : fw_fldW 5 97 0 12 9 .int := ⟨_, _, _, fw_cls0, by decide, fw_mem 117 (by decide +kernel) rfl, by decide, rfl, rfl⟩
theorem ff_5_104 : fw_fld 5 104 0 12 2 := ⟨_, _, _, fw_cls0, by decide, fw_mem 101 (by decide +kernel) rfl, by decide⟩
theorem ff_5_123 : fw_fld 5 123 0 12 11 := ⟨_, _, _, fw_cls0, by decide, fw_mem 121 (by decide +kernel) rfl, by decide⟩
theorem fp_5_123 : fw_fldW 5 123 0 12 11 .long := ⟨_, _, _, fw_cls0, by decide, fw_mem 121 (by decide +kernel) rfl, by decide, rfl, rfl⟩
theorem ff_5_127 : fw_fld 5 127 0 12 10 := ⟨_, _, _, fw_cls0, by decide, fw_mem 119 (by decide +kernel) rfl, by decide⟩
theorem fp_5_127 : fw_fldW 5 127 0 12 10 .int := ⟨_, _, _, fw_cls0, by decide, fw_mem 119 (by decide +kernel) rfl, by decide, rfl, rfl⟩
theorem ff_5_138 : fw_fld 5 138 1 8 2 := ⟨_, _, _, fw_cls1, by decide, fw_mem 153 (by decide +kernel) rfl, by decide⟩
theorem ff_5_145 : fw_fld 5 145 0 12 3 := ⟨_, _, _, fw_cls0, by decide, fw_mem 104 (by decide +kernel) rfl, by decide⟩
theorem ff_5_148 : fw_fld 5 148 0 12 4 := ⟨_, _, _, fw_cls0, by decide, fw_mem 107 (by decide +kernel) rfl, by decide⟩
theorem ff_5_151 : fw_fld 5 151 0 12 5 := ⟨_, _, _, fw_cls0, by decide, fw_mem 110 (by decide +kernel) rfl, by decide⟩
theorem ff_5_158 : fw_fld 5 158 0 12 6 := ⟨_, _, _, fw_cls0, by decide, fw_mem 112 (by decide +kernel) rfl, by decide⟩
theorem ff_5_172 : fw_fld 5 172 4 10 8 := ⟨_, _, _, fw_cls4, by decide, fw_mem 199 (by decide +kernel) rfl, by decide⟩
theorem ff_5_175 : fw_fld 5 175 4 10 3 := ⟨_, _, _, fw_cls4, by decide, fw_mem 191 (by decide +kernel) rfl, by decide⟩
theorem ff_5_177 : fw_fld 5 177 4 10 4 := ⟨_, _, _, fw_cls4, by decide, fw_mem 193 (by decide +kernel) rfl, by decide⟩
theorem ff_5_179 : fw_fld 5 179 4 10 6 := ⟨_, _, _, fw_cls4, by decide, fw_mem 196 (by decide +kernel) rfl, by decide⟩
theorem ff_5_214 : fw_fld 5 214 1 8 7 := ⟨_, _, _, fw_cls1, by decide, fw_mem 163 (by decide +kernel) rfl, by decide⟩
theorem ff_5_228 : fw_fld 5 228 1 8 4 := ⟨_, _, _, fw_cls1, by decide, fw_mem 156 (by decide +kernel) rfl, by decide⟩
theorem ff_5_231 : fw_fld 5 231 1 8 5 := ⟨_, _, _, fw_cls1, by decide, fw_mem 158 (by decide +kernel) rfl, by decide⟩
theorem ff_5_237 : fw_fld 5 237 2 4 3 := ⟨_, _, _, fw_cls2, by decide, fw_mem 240 (by decide +kernel) rfl, by decide⟩
theorem ff_5_240 : fw_fld 5 240 2 4 2 := ⟨_, _, _, fw_cls2, by decide, fw_mem 238 (by decide +kernel) rfl, by decide⟩
theorem ff_5_262 : fw_fld 5 262 3 5 4 := ⟨_, _, _, fw_cls3, by decide, fw_mem 265 (by decide +kernel) rfl, by decide⟩
theorem fp_5_262 : fw_fldW 5 262 3 5 4 .int := ⟨_, _, _, fw_cls3, by decide, fw_mem 265 (by decide +kernel) rfl, by decide, rfl, rfl⟩
theorem ff_5_266 : fw_fld 5 266 3 5 3 := ⟨_, _, _, fw_cls3, by decide, fw_mem 263 (by decide +kernel) rfl, by decide⟩
theorem ff_5_269 : fw_fld 5 269 3 5 2 := ⟨_, _, _, fw_cls3, by decide, fw_mem 261 (by decide +kernel) rfl, by decide⟩
theorem ff_5_276 : fw_fld 5 276 3 5 1 := ⟨_, _, _, fw_cls3, by decide, fw_mem 259 (by decide +kernel) rfl, by decide⟩
theorem ff_5_296 : fw_fld 5 296 1 8 6 := ⟨_, _, _, fw_cls1, by decide, fw_mem 161 (by decide +kernel) rfl, by decide⟩
theorem ff_5_305 : fw_fld 5 305 5 10 9 := ⟨_, _, _, fw_cls5, by decide, fw_mem 298 (by decide +kernel) rfl, by decide⟩
theorem fp_5_305 : fw_fldW 5 305 5 10 9 .long := ⟨_, _, _, fw_cls5, by decide, fw_mem 298 (by decide +kernel) rfl, by decide, rfl, rfl⟩
theorem ff_5_332 : fw_fld 5 332 2 4 0 := ⟨_, _, _, fw_cls2, by decide, fw_mem 234 (by decide +kernel) rfl, by decide⟩
theorem ff_5_335 : fw_fld 5 335 2 4 1 := ⟨_, _, _, fw_cls2, by decide, fw_mem 236 (by decide +kernel) rfl, by decide⟩
theorem ff_6_7 : fw_fld 6 7 6 36 2 := ⟨_, _, _, fw_cls6, by decide, fw_mem 777 (by decide +kernel) rfl, by decide⟩
theorem fp_6_7 : fw_fldW 6 7 6 36 2 .int := ⟨_, _, _, fw_cls6, by decide, fw_mem 777 (by decide +kernel) rfl, by decide, rfl, rfl⟩
theorem ff_6_13 : fw_fld 6 13 6 36 5 := ⟨_, _, _, fw_cls6, by decide, fw_mem 780 (by decide +kernel) rfl, by decide⟩
theorem ff_6_17 : fw_fld 6 17 6 36 6 := ⟨_, _, _, fw_cls6, by decide, fw_mem 781 (by decide +kernel) rfl, by decide⟩
theorem ff_6_20 : fw_fld 6 20 6 36 7 := ⟨_, _, _, fw_cls6, by decide, fw_mem 782 (by decide +kernel) rfl, by decide⟩
theorem ff_6_24 : fw_fld 6 24 6 36 8 := ⟨_, _, _, fw_cls6, by decide, fw_mem 783 (by decide +kernel) rfl, by decide⟩
theorem ff_6_27 : fw_fld 6 27 6 36 9 := ⟨_, _, _, fw_cls6, by decide, fw_mem 784 (by decide +kernel) rfl, by decide⟩
theorem ff_6_30 : fw_fld 6 30 6 36 10 := ⟨_, _, _, fw_cls6, by decide, fw_mem 785 (by decide +kernel) rfl, by decide⟩
theorem ff_6_33 : fw_fld 6 33 6 36 11 := ⟨_, _, _, fw_cls6, by decide, fw_mem 786 (by decide +kernel) rfl, by decide⟩
theorem ff_6_36 : fw_fld 6 36 6 36 12 := ⟨_, _, _, fw_cls6, by decide, fw_mem 787 (by decide +kernel) rfl, by decide⟩
theorem ff_6_39 : fw_fld 6 39 6 36 13 := ⟨_, _, _, fw_cls6, by decide, fw_mem 788 (by decide +kernel) rfl, by decide⟩
theorem ff_6_42 : fw_fld 6 42 6 36 14 := ⟨_, _, _, fw_cls6, by decide, fw_mem 789 (by decide +kernel) rfl, by decide⟩
theorem ff_6_46 : fw_fld 6 46 6 36 15 := ⟨_, _, _, fw_cls6, by decide, fw_mem 790 (by decide +kernel) rfl, by decide⟩
theorem ff_6_49 : fw_fld 6 49 6 36 16 := ⟨_, _, _, fw_cls6, by decide, fw_mem 791 (by decide +kernel) rfl, by decide⟩
theorem ff_6_52 : fw_fld 6 52 6 36 17 := ⟨_, _, _, fw_cls6, by decide, fw_mem 792 (by decide +kernel) rfl, by decide⟩
theorem ff_6_55 : fw_fld 6 55 6 36 18 := ⟨_, _, _, fw_cls6, by decide, fw_mem 793 (by decide +kernel) rfl, by decide⟩
theorem ff_6_58 : fw_fld 6 58 6 36 19 := ⟨_, _, _, fw_cls6, by decide, fw_mem 794 (by decide +kernel) rfl, by decide⟩
theorem ff_6_61 : fw_fld 6 61 6 36 20 := ⟨_, _, _, fw_cls6, by decide, fw_mem 795 (by decide +kernel) rfl, by decide⟩
theorem ff_6_64 : fw_fld 6 64 6 36 21 := ⟨_, _, _, fw_cls6, by decide, fw_mem 796 (by decide +kernel) rfl, by decide⟩
theorem ff_6_67 : fw_fld 6 67 6 36 22 := ⟨_, _, _, fw_cls6, by decide, fw_mem 797 (by decide +kernel) rfl, by decide⟩
theorem ff_6_70 : fw_fld 6 70 6 36 23 := ⟨_, _, _, fw_cls6, by decide, fw_mem 798 (by decide +kernel) rfl, by decide⟩
theorem ff_6_73 : fw_fld 6 73 6 36 24 := ⟨_, _, _, fw_cls6, by decide, fw_mem 799 (by decide +kernel) rfl, by decide⟩
theorem ff_6_76 : fw_fld 6 76 6 36 25 := ⟨_, _, _, fw_cls6, by decide, fw_mem 800 (by decide +kernel) rfl, by decide⟩
theorem ff_6_79 : fw_fld 6 79 6 36 26 := ⟨_, _, _, fw_cls6, by decide, fw_mem 801 (by decide +kernel) rfl, by decide⟩
theorem ff_6_82 : fw_fld 6 82 6 36 27 := ⟨_, _, _, fw_cls6, by decide, fw_mem 802 (by decide +kernel) rfl, by decide⟩
theorem ff_6_85 : fw_fld 6 85 6 36 29 := ⟨_, _, _, fw_cls6, by decide, fw_mem 804 (by decide +kernel) rfl, by decide⟩
theorem ff_6_88 : fw_fld 6 88 6 36 30 := ⟨_, _, _, fw_cls6, by decide, fw_mem 805 (by decide +kernel) rfl, by decide⟩
theorem ff_6_91 : fw_fld 6 91 6 36 32 := ⟨_, _, _, fw_cls6, by decide, fw_mem 807 (by decide +kernel) rfl, by decide⟩
theorem ff_6_94 : fw_fld 6 94 6 36 33 := ⟨_, _, _, fw_cls6, by decide, fw_mem 808 (by decide +kernel) rfl, by decide⟩
theorem ff_6_97 : fw_fld 6 97 6 36 34 := ⟨_, _, _, fw_cls6, by decide, fw_mem 809 (by decide +kernel) rfl, by decide⟩
theorem ff_6_100 : fw_fld 6 100 6 36 35 := ⟨_, _, _, fw_cls6, by decide, fw_mem 810 (by decide +kernel) rfl, by decide⟩
theorem ff_6_106 : fw_fld 6 106 6 36 0 := ⟨_, _, _, fw_cls6, by decide, fw_mem 775 (by decide +kernel) rfl, by decide⟩
theorem fp_6_106 : fw_fldW 6 106 6 36 0 .int := ⟨_, _, _, fw_cls6, by decide, fw_mem 775 (by decide +kernel) rfl, by decide, rfl, rfl⟩
theorem ff_6_109 : fw_fld 6 109 6 36 4 := ⟨_, _, _, fw_cls6, by decide, fw_mem 779 (by decide +kernel) rfl, by decide⟩
theorem fp_6_109 : fw_fldW 6 109 6 36 4 .int := ⟨_, _, _, fw_cls6, by decide, fw_mem 779 (by decide +kernel) rfl, by decide, rfl, rfl⟩
theorem ff_6_112 : fw_fld 6 112 6 36 31 := ⟨_, _, _, fw_cls6, by decide, fw_mem 806 (by decide +kernel) rfl, by decide⟩
theorem fp_6_112 : fw_fldW 6 112 6 36 31 .int := ⟨_, _, _, fw_cls6, by decide, fw_mem 806 (by decide +kernel) rfl, by decide, rfl, rfl⟩
theorem ff_6_134 : fw_fld 6 134 6 36 3 := ⟨_, _, _, fw_cls6, by decide, fw_mem 778 (by decide +kernel) rfl, by decide⟩
theorem fp_6_134 : fw_fldW 6 134 6 36 3 .int := ⟨_, _, _, fw_cls6, by decide, fw_mem 778 (by decide +kernel) rfl, by decide, rfl, rfl⟩
theorem ff_6_200 : fw_fld 6 200 6 36 28 := ⟨_, _, _, fw_cls6, by decide, fw_mem 803 (by decide +kernel) rfl, by decide⟩
theorem fp_6_200 : fw_fldW 6 200 6 36 28 .int := ⟨_, _, _, fw_cls6, by decide, fw_mem 803 (by decide +kernel) rfl, by decide, rfl, rfl⟩
theorem ff_6_236 : fw_fld 6 236 6 36 1 := ⟨_, _, _, fw_cls6, by decide, fw_mem 776 (by decide +kernel) rfl, by decide⟩
theorem fp_6_236 : fw_fldW 6 236 6 36 1 .long := ⟨_, _, _, fw_cls6, by decide, fw_mem 776 (by decide +kernel) rfl, by decide, rfl, rfl⟩
theorem ck_5_213 : Cond.constant RX5 213 1000003 ∈ fw_tbl := fw_mem 624 (by decide +kernel) rfl
theorem cl_5_309 : Cond.constantLong RX5 309 (10) ∈ fw_tbl := fw_mem 573 (by decide +kernel) rfl
theorem cl_5_313 : Cond.constantLong RX5 313 (100) ∈ fw_tbl := fw_mem 586 (by decide +kernel) rfl
theorem cl_5_318 : Cond.constantLong RX5 318 (1000) ∈ fw_tbl := fw_mem 595 (by decide +kernel) rfl
theorem cl_5_320 : Cond.constantLong RX5 320 (10000) ∈ fw_tbl := fw_mem 600 (by decide +kernel) rfl
theorem cl_5_322 : Cond.constantLong RX5 322 (100000) ∈ fw_tbl := fw_mem 605 (by decide +kernel) rfl
theorem cl_5_281 : Cond.constantLong RX5 281 (-1) ∈ fw_tbl := fw_mem 734 (by decide +kernel) rfl
theorem cl_5_283 : Cond.constantLong RX5 283 (-2) ∈ fw_tbl := fw_mem 735 (by decide +kernel) rfl
theorem cl_6_192 : Cond.constantLong RX6 192 (255) ∈ fw_tbl := fw_mem 996 (by decide +kernel) rfl
theorem cl_6_198 : Cond.constantLong RX6 198 (256) ∈ fw_tbl := fw_mem 997 (by decide +kernel) rfl
theorem cl_6_240 : Cond.constantLong RX6 240 (11) ∈ fw_tbl := fw_mem 1058 (by decide +kernel) rfl
theorem cl_6_242 : Cond.constantLong RX6 242 (101) ∈ fw_tbl := fw_mem 1059 (by decide +kernel) rfl
theorem cl_6_244 : Cond.constantLong RX6 244 (1001) ∈ fw_tbl := fw_mem 1060 (by decide +kernel) rfl
theorem cl_6_246 : Cond.constantLong RX6 246 (10011) ∈ fw_tbl := fw_mem 1061 (by decide +kernel) rfl
theorem cl_6_248 : Cond.constantLong RX6 248 (100011) ∈ fw_tbl := fw_mem 1062 (by decide +kernel) rfl
theorem cl_6_253 : Cond.constantLong RX6 253 (31) ∈ fw_tbl := fw_mem 1079 (by decide +kernel) rfl
theorem cl_6_255 : Cond.constantLong RX6 255 (7) ∈ fw_tbl := fw_mem 1080 (by decide +kernel) rfl
theorem cl_6_257 : Cond.constantLong RX6 257 (1000003) ∈ fw_tbl := fw_mem 1081 (by decide +kernel) rfl
theorem cl_6_270 : Cond.constantLong RX6 270 (-1) ∈ fw_tbl := fw_mem 1146 (by decide +kernel) rfl
theorem cl_6_272 : Cond.constantLong RX6 272 (-2) ∈ fw_tbl := fw_mem 1147 (by decide +kernel) rfl
end
