theorem dX5_bulkAsHeld_17 : decode cX5_bulkAsHeld 17 = .ok (.aload_n 0, 1) := by decide +kernel
theorem dX5_bulkAsHeld_18 : decode cX5_bulkAsHeld 18 = .ok (.getfield 21, 3) := by decide +kernel
theorem dX5_bulkAsHeld_21 : decode cX5_bulkAsHeld 21 = .ok (.iload_n 1, 1) := by decide +kernel
theorem dX5_bulkAsHeld_22 : decode cX5_bulkAsHeld 22 = .ok (.invokevirtual 311, 3) := by decide +kernel
theorem dX5_bulkAsHeld_25 : decode cX5_bulkAsHeld 25 = .ok (.iconst 2, 1) := by decide +kernel
theorem dX5_bulkAsHeld_26 : decode cX5_bulkAsHeld 26 = .ok (.idiv, 1) := by decide +kernel
theorem dX5_bulkAsHeld_27 : decode cX5_bulkAsHeld 27 = .ok (.isub, 1) := by decide +kernel
theorem dX5_bulkAsHeld_28 : decode cX5_bulkAsHeld 28 = .ok (.ireturn, 1) := by decide +kernel
theorem dX5_bulkAsClash_0 : decode cX5_bulkAsClash 0 = .ok (.aload_n 0, 1) := by decide +kernel
theorem dX5_bulkAsClash_1 : decode cX5_bulkAsClash 1 = .ok (.dup, 1) := by decide +kernel
theorem dX5_bulkAsClash_2 : decode cX5_bulkAsClash 2 = .ok (.getfield 305, 3) := by decide +kernel
theorem dX5_bulkAsClash_5 : decode cX5_bulkAsClash 5 = .ok (.ldc2_w 322, 3) := by decide +kernel
theorem dX5_bulkAsClash_8 : decode cX5_bulkAsClash 8 = .ok (.ladd, 1) := by decide +kernel
theorem dX5_bulkAsClash_9 : decode cX5_bulkAsClash 9 = .ok (.putfield 305, 3) := by decide +kernel
theorem dX5_bulkAsClash_12 : decode cX5_bulkAsClash 12 = .ok (.aload_n 0, 1) := by decide +kernel
theorem dX5_bulkAsClash_13 : decode cX5_bulkAsClash 13 = .ok (.iload_n 1, 1) := by decide +kernel
theorem dX5_bulkAsClash_14 : decode cX5_bulkAsClash 14 = .ok (.invokevirtual 188, 3) := by decide +kernel
theorem dX5_bulkAsClash_17 : decode cX5_bulkAsClash 17 = .ok (.iconst 5, 1) := by decide +kernel
theorem dX5_bulkAsClash_18 : decode cX5_bulkAsClash 18 = .ok (.aload_n 0, 1) := by decide +kernel
theorem dX5_bulkAsClash_19 : decode cX5_bulkAsClash 19 = .ok (.getfield 21, 3) := by decide +kernel
theorem dX5_bulkAsClash_22 : decode cX5_bulkAsClash 22 = .ok (.getfield 172, 3) := by decide +kernel
theorem dX5_bulkAsClash_25 : decode cX5_bulkAsClash 25 = .ok (.iload_n 1, 1) := by decide +kernel
theorem dX5_bulkAsClash_26 : decode cX5_bulkAsClash 26 = .ok (.iaload, 1) := by decide +kernel
theorem dX5_bulkAsClash_27 : decode cX5_bulkAsClash 27 = .ok (.imul, 1) := by decide +kernel
theorem dX5_bulkAsClash_28 : decode cX5_bulkAsClash 28 = .ok (.iadd, 1) := by decide +kernel
theorem dX5_bulkAsClash_29 : decode cX5_bulkAsClash 29 = .ok (.ireturn, 1) := by decide +kernel
theorem dX5_wantPiecesOf_0 : decode cX5_wantPiecesOf 0 = .ok (.aload_n 0, 1) := by decide +kernel
theorem dX5_wantPiecesOf_1 : decode cX5_wantPiecesOf 1 = .ok (.getfield 34, 3) := by decide +kernel
theorem dX5_wantPiecesOf_4 : decode cX5_wantPiecesOf 4 = .ok (.invokevirtual 113, 3) := by decide +kernel
theorem dX5_wantPiecesOf_7 : decode cX5_wantPiecesOf 7 = .ok (.aload_n 0, 1) := by decide +kernel
theorem dX5_wantPiecesOf_8 : decode cX5_wantPiecesOf 8 = .ok (.iload_n 1, 1) := by decide +kernel
theorem dX5_wantPiecesOf_9 : decode cX5_wantPiecesOf 9 = .ok (.aload_n 0, 1) := by decide +kernel
theorem dX5_wantPiecesOf_10 : decode cX5_wantPiecesOf 10 = .ok (.getfield 34, 3) := by decide +kernel
theorem dX5_wantPiecesOf_13 : decode cX5_wantPiecesOf 13 = .ok (.invokevirtual 324, 3) := by decide +kernel
theorem dX5_wantPiecesOf_16 : decode cX5_wantPiecesOf 16 = .ok (.return_, 1) := by decide +kernel
theorem dX5_gatherPiecesOfOthers_0 : decode cX5_gatherPiecesOfOthers 0 = .ok (.aload_n 0, 1) := by decide +kernel
theorem dX5_gatherPiecesOfOthers_1 : decode cX5_gatherPiecesOfOthers 1 = .ok (.getfield 38, 3) := by decide +kernel
theorem dX5_gatherPiecesOfOthers_4 : decode cX5_gatherPiecesOfOthers 4 = .ok (.invokevirtual 113, 3) := by decide +kernel
theorem dX5_gatherPiecesOfOthers_7 : decode cX5_gatherPiecesOfOthers 7 = .ok (.iconst 0, 1) := by decide +kernel
theorem dX5_gatherPiecesOfOthers_8 : decode cX5_gatherPiecesOfOthers 8 = .ok (.istore_n 2, 1) := by decide +kernel
theorem dX5_gatherPiecesOfOthers_9 : decode cX5_gatherPiecesOfOthers 9 = .ok (.iload_n 2, 1) := by decide +kernel
theorem dX5_gatherPiecesOfOthers_10 : decode cX5_gatherPiecesOfOthers 10 = .ok (.bipush 12, 2) := by decide +kernel
theorem dX5_gatherPiecesOfOthers_12 : decode cX5_gatherPiecesOfOthers 12 = .ok (.if_icmp .ge 34, 3) := by decide +kernel
theorem dX5_gatherPiecesOfOthers_15 : decode cX5_gatherPiecesOfOthers 15 = .ok (.iload_n 2, 1) := by decide +kernel
theorem dX5_gatherPiecesOfOthers_16 : decode cX5_gatherPiecesOfOthers 16 = .ok (.iload_n 1, 1) := by decide +kernel
theorem dX5_gatherPiecesOfOthers_17 : decode cX5_gatherPiecesOfOthers 17 = .ok (.if_icmp .eq 23, 3) := by decide +kernel
theorem dX5_gatherPiecesOfOthers_20 : decode cX5_gatherPiecesOfOthers 20 = .ok (.aload_n 0, 1) := by decide +kernel
theorem dX5_gatherPiecesOfOthers_21 : decode cX5_gatherPiecesOfOthers 21 = .ok (.getfield 21, 3) := by decide +kernel
theorem dX5_gatherPiecesOfOthers_24 : decode cX5_gatherPiecesOfOthers 24 = .ok (.iload_n 2, 1) := by decide +kernel
theorem dX5_gatherPiecesOfOthers_25 : decode cX5_gatherPiecesOfOthers 25 = .ok (.invokevirtual 110, 3) := by decide +kernel
theorem dX5_gatherPiecesOfOthers_28 : decode cX5_gatherPiecesOfOthers 28 = .ok (.ifCond .eq 12, 3) := by decide +kernel
theorem dX5_gatherPiecesOfOthers_31 : decode cX5_gatherPiecesOfOthers 31 = .ok (.aload_n 0, 1) := by decide +kernel
theorem dX5_gatherPiecesOfOthers_32 : decode cX5_gatherPiecesOfOthers 32 = .ok (.iload_n 2, 1) := by decide +kernel
theorem dX5_gatherPiecesOfOthers_33 : decode cX5_gatherPiecesOfOthers 33 = .ok (.aload_n 0, 1) := by decide +kernel
theorem dX5_gatherPiecesOfOthers_34 : decode cX5_gatherPiecesOfOthers 34 = .ok (.getfield 38, 3) := by decide +kernel
theorem dX5_gatherPiecesOfOthers_37 : decode cX5_gatherPiecesOfOthers 37 = .ok (.invokevirtual 324, 3) := by decide +kernel
theorem dX5_gatherPiecesOfOthers_40 : decode cX5_gatherPiecesOfOthers 40 = .ok (.iinc 2 1, 3) := by decide +kernel
theorem dX5_gatherPiecesOfOthers_43 : decode cX5_gatherPiecesOfOthers 43 = .ok (.goto (-34), 3) := by decide +kernel
theorem dX5_gatherPiecesOfOthers_46 : decode cX5_gatherPiecesOfOthers 46 = .ok (.return_, 1) := by decide +kernel
theorem dX5_addPiecesOf_0 : decode cX5_addPiecesOf 0 = .ok (.iconst 0, 1) := by decide +kernel
theorem dX5_addPiecesOf_1 : decode cX5_addPiecesOf 1 = .ok (.istore_n 3, 1) := by decide +kernel
theorem dX5_addPiecesOf_2 : decode cX5_addPiecesOf 2 = .ok (.iload_n 3, 1) := by decide +kernel
theorem dX5_addPiecesOf_3 : decode cX5_addPiecesOf 3 = .ok (.aload_n 0, 1) := by decide +kernel
theorem dX5_addPiecesOf_4 : decode cX5_addPiecesOf 4 = .ok (.getfield 21, 3) := by decide +kernel
theorem dX5_addPiecesOf_7 : decode cX5_addPiecesOf 7 = .ok (.getfield 172, 3) := by decide +kernel
theorem dX5_addPiecesOf_10 : decode cX5_addPiecesOf 10 = .ok (.iload_n 1, 1) := by decide +kernel
theorem dX5_addPiecesOf_11 : decode cX5_addPiecesOf 11 = .ok (.iaload, 1) := by decide +kernel
theorem dX5_addPiecesOf_12 : decode cX5_addPiecesOf 12 = .ok (.if_icmp .ge 34, 3) := by decide +kernel
theorem dX5_addPiecesOf_15 : decode cX5_addPiecesOf 15 = .ok (.aload_n 0, 1) := by decide +kernel
theorem dX5_addPiecesOf_16 : decode cX5_addPiecesOf 16 = .ok (.getfield 21, 3) := by decide +kernel
theorem dX5_addPiecesOf_19 : decode cX5_addPiecesOf 19 = .ok (.iload_n 1, 1) := by decide +kernel
theorem dX5_addPiecesOf_20 : decode cX5_addPiecesOf 20 = .ok (.iload_n 3, 1) := by decide +kernel
theorem dX5_addPiecesOf_21 : decode cX5_addPiecesOf 21 = .ok (.invokevirtual 181, 3) := by decide +kernel
theorem dX5_addPiecesOf_24 : decode cX5_addPiecesOf 24 = .ok (.astore 4, 2) := by decide +kernel
theorem dX5_addPiecesOf_26 : decode cX5_addPiecesOf 26 = .ok (.aload_n 2, 1) := by decide +kernel
theorem dX5_addPiecesOf_27 : decode cX5_addPiecesOf 27 = .ok (.aload 4, 2) := by decide +kernel
theorem dX5_addPiecesOf_29 : decode cX5_addPiecesOf 29 = .ok (.getfield 123, 3) := by decide +kernel
theorem dX5_addPiecesOf_32 : decode cX5_addPiecesOf 32 = .ok (.aload 4, 2) := by decide +kernel
theorem dX5_addPiecesOf_34 : decode cX5_addPiecesOf 34 = .ok (.getfield 127, 3) := by decide +kernel
theorem dX5_addPiecesOf_37 : decode cX5_addPiecesOf 37 = .ok (.invokevirtual 116, 3) := by decide +kernel
theorem dX5_addPiecesOf_40 : decode cX5_addPiecesOf 40 = .ok (.iinc 3 1, 3) := by decide +kernel
theorem dX5_addPiecesOf_43 : decode cX5_addPiecesOf 43 = .ok (.goto (-41), 3) := by decide +kernel
theorem dX5_addPiecesOf_46 : decode cX5_addPiecesOf 46 = .ok (.return_, 1) := by decide +kernel
theorem dX5_hasRoomForWanted_0 : decode cX5_hasRoomForWanted 0 = .ok (.aload_n 0, 1) := by decide +kernel
theorem dX5_hasRoomForWanted_1 : decode cX5_hasRoomForWanted 1 = .ok (.getfield 27, 3) := by decide +kernel
theorem dX5_hasRoomForWanted_4 : decode cX5_hasRoomForWanted 4 = .ok (.iload_n 1, 1) := by decide +kernel
theorem dX5_hasRoomForWanted_5 : decode cX5_hasRoomForWanted 5 = .ok (.aaload, 1) := by decide +kernel
theorem dX5_hasRoomForWanted_6 : decode cX5_hasRoomForWanted 6 = .ok (.astore_n 2, 1) := by decide +kernel
theorem dX5_hasRoomForWanted_7 : decode cX5_hasRoomForWanted 7 = .ok (.aload_n 2, 1) := by decide +kernel
theorem dX5_hasRoomForWanted_8 : decode cX5_hasRoomForWanted 8 = .ok (.getfield 237, 3) := by decide +kernel
theorem dX5_hasRoomForWanted_11 : decode cX5_hasRoomForWanted 11 = .ok (.aload_n 0, 1) := by decide +kernel
theorem dX5_hasRoomForWanted_12 : decode cX5_hasRoomForWanted 12 = .ok (.getfield 34, 3) := by decide +kernel
theorem dX5_hasRoomForWanted_15 : decode cX5_hasRoomForWanted 15 = .ok (.aload_n 2, 1) := by decide +kernel
theorem dX5_hasRoomForWanted_16 : decode cX5_hasRoomForWanted 16 = .ok (.invokevirtual 328, 3) := by decide +kernel
theorem dX5_hasRoomForWanted_19 : decode cX5_hasRoomForWanted 19 = .ok (.iadd, 1) := by decide +kernel
theorem dX5_hasRoomForWanted_20 : decode cX5_hasRoomForWanted 20 = .ok (.aload_n 0, 1) := by decide +kernel
theorem dX5_hasRoomForWanted_21 : decode cX5_hasRoomForWanted 21 = .ok (.getfield 41, 3) := by decide +kernel
theorem dX5_hasRoomForWanted_24 : decode cX5_hasRoomForWanted 24 = .ok (.iload_n 1, 1) := by decide +kernel
theorem dX5_hasRoomForWanted_25 : decode cX5_hasRoomForWanted 25 = .ok (.iaload, 1) := by decide +kernel
theorem dX5_hasRoomForWanted_26 : decode cX5_hasRoomForWanted 26 = .ok (.if_icmp .gt 7, 3) := by decide +kernel
theorem dX5_hasRoomForWanted_29 : decode cX5_hasRoomForWanted 29 = .ok (.iconst 1, 1) := by decide +kernel
theorem dX5_hasRoomForWanted_30 : decode cX5_hasRoomForWanted 30 = .ok (.goto 4, 3) := by decide +kernel
theorem dX5_hasRoomForWanted_33 : decode cX5_hasRoomForWanted 33 = .ok (.iconst 0, 1) := by decide +kernel
theorem dX5_hasRoomForWanted_34 : decode cX5_hasRoomForWanted 34 = .ok (.ireturn, 1) := by decide +kernel
theorem dX5_othersHaveWanted_0 : decode cX5_othersHaveWanted 0 = .ok (.iconst 0, 1) := by decide +kernel
theorem dX5_othersHaveWanted_1 : decode cX5_othersHaveWanted 1 = .ok (.istore_n 2, 1) := by decide +kernel
theorem dX5_othersHaveWanted_2 : decode cX5_othersHaveWanted 2 = .ok (.iload_n 2, 1) := by decide +kernel
theorem dX5_othersHaveWanted_3 : decode cX5_othersHaveWanted 3 = .ok (.aload_n 0, 1) := by decide +kernel
theorem dX5_othersHaveWanted_4 : decode cX5_othersHaveWanted 4 = .ok (.getfield 34, 3) := by decide +kernel
theorem dX5_othersHaveWanted_7 : decode cX5_othersHaveWanted 7 = .ok (.getfield 240, 3) := by decide +kernel
theorem dX5_othersHaveWanted_10 : decode cX5_othersHaveWanted 10 = .ok (.if_icmp .ge 82, 3) := by decide +kernel
theorem dX5_othersHaveWanted_13 : decode cX5_othersHaveWanted 13 = .ok (.iconst 0, 1) := by decide +kernel
theorem dX5_othersHaveWanted_14 : decode cX5_othersHaveWanted 14 = .ok (.istore_n 3, 1) := by decide +kernel
theorem dX5_othersHaveWanted_15 : decode cX5_othersHaveWanted 15 = .ok (.iconst 0, 1) := by decide +kernel
theorem dX5_othersHaveWanted_16 : decode cX5_othersHaveWanted 16 = .ok (.istore 4, 2) := by decide +kernel
theorem dX5_othersHaveWanted_18 : decode cX5_othersHaveWanted 18 = .ok (.iload 4, 2) := by decide +kernel
theorem dX5_othersHaveWanted_20 : decode cX5_othersHaveWanted 20 = .ok (.aload_n 0, 1) := by decide +kernel
theorem dX5_othersHaveWanted_21 : decode cX5_othersHaveWanted 21 = .ok (.getfield 55, 3) := by decide +kernel
theorem dX5_othersHaveWanted_24 : decode cX5_othersHaveWanted 24 = .ok (.if_icmp .ge 56, 3) := by decide +kernel
theorem dX5_othersHaveWanted_27 : decode cX5_othersHaveWanted 27 = .ok (.iload_n 3, 1) := by decide +kernel
theorem dX5_othersHaveWanted_28 : decode cX5_othersHaveWanted 28 = .ok (.ifCond .ne 40, 3) := by decide +kernel
theorem dX5_othersHaveWanted_31 : decode cX5_othersHaveWanted 31 = .ok (.iload 4, 2) := by decide +kernel
theorem dX5_othersHaveWanted_33 : decode cX5_othersHaveWanted 33 = .ok (.iload_n 1, 1) := by decide +kernel
theorem dX5_othersHaveWanted_34 : decode cX5_othersHaveWanted 34 = .ok (.if_icmp .eq 38, 3) := by decide +kernel
theorem dX5_othersHaveWanted_37 : decode cX5_othersHaveWanted 37 = .ok (.aload_n 0, 1) := by decide +kernel
theorem dX5_othersHaveWanted_38 : decode cX5_othersHaveWanted 38 = .ok (.getfield 27, 3) := by decide +kernel
theorem dX5_othersHaveWanted_41 : decode cX5_othersHaveWanted 41 = .ok (.iload 4, 2) := by decide +kernel
theorem dX5_othersHaveWanted_43 : decode cX5_othersHaveWanted 43 = .ok (.aaload, 1) := by decide +kernel
theorem dX5_othersHaveWanted_44 : decode cX5_othersHaveWanted 44 = .ok (.aload_n 0, 1) := by decide +kernel
theorem dX5_othersHaveWanted_45 : decode cX5_othersHaveWanted 45 = .ok (.getfield 34, 3) := by decide +kernel
theorem dX5_othersHaveWanted_48 : decode cX5_othersHaveWanted 48 = .ok (.getfield 332, 3) := by decide +kernel
theorem dX5_othersHaveWanted_51 : decode cX5_othersHaveWanted 51 = .ok (.iload_n 2, 1) := by decide +kernel
theorem dX5_othersHaveWanted_52 : decode cX5_othersHaveWanted 52 = .ok (.laload, 1) := by decide +kernel
theorem dX5_othersHaveWanted_53 : decode cX5_othersHaveWanted 53 = .ok (.aload_n 0, 1) := by decide +kernel
theorem dX5_othersHaveWanted_54 : decode cX5_othersHaveWanted 54 = .ok (.getfield 34, 3) := by decide +kernel
theorem dX5_othersHaveWanted_57 : decode cX5_othersHaveWanted 57 = .ok (.getfield 335, 3) := by decide +kernel
theorem dX5_othersHaveWanted_60 : decode cX5_othersHaveWanted 60 = .ok (.iload_n 2, 1) := by decide +kernel
theorem dX5_othersHaveWanted_61 : decode cX5_othersHaveWanted 61 = .ok (.iaload, 1) := by decide +kernel
theorem dX5_othersHaveWanted_62 : decode cX5_othersHaveWanted 62 = .ok (.invokevirtual 337, 3) := by decide +kernel
theorem dX5_othersHaveWanted_65 : decode cX5_othersHaveWanted 65 = .ok (.ifCond .eq 7, 3) := by decide +kernel
theorem dX5_othersHaveWanted_68 : decode cX5_othersHaveWanted 68 = .ok (.iconst 1, 1) := by decide +kernel
theorem dX5_othersHaveWanted_69 : decode cX5_othersHaveWanted 69 = .ok (.goto 4, 3) := by decide +kernel
theorem dX5_othersHaveWanted_72 : decode cX5_othersHaveWanted 72 = .ok (.iconst 0, 1) := by decide +kernel
theorem dX5_othersHaveWanted_73 : decode cX5_othersHaveWanted 73 = .ok (.istore_n 3, 1) := by decide +kernel
theorem dX5_othersHaveWanted_74 : decode cX5_othersHaveWanted 74 = .ok (.iinc 4 1, 3) := by decide +kernel
theorem dX5_othersHaveWanted_77 : decode cX5_othersHaveWanted 77 = .ok (.goto (-59), 3) := by decide +kernel
theorem dX5_othersHaveWanted_80 : decode cX5_othersHaveWanted 80 = .ok (.iload_n 3, 1) := by decide +kernel
theorem dX5_othersHaveWanted_81 : decode cX5_othersHaveWanted 81 = .ok (.ifCond .ne 5, 3) := by decide +kernel
theorem dX5_othersHaveWanted_84 : decode cX5_othersHaveWanted 84 = .ok (.iconst 0, 1) := by decide +kernel
theorem dX5_othersHaveWanted_85 : decode cX5_othersHaveWanted 85 = .ok (.ireturn, 1) := by decide +kernel
theorem dX5_othersHaveWanted_86 : decode cX5_othersHaveWanted 86 = .ok (.iinc 2 1, 3) := by decide +kernel
theorem dX5_othersHaveWanted_89 : decode cX5_othersHaveWanted 89 = .ok (.goto (-87), 3) := by decide +kernel
theorem dX5_othersHaveWanted_92 : decode cX5_othersHaveWanted 92 = .ok (.iconst 1, 1) := by decide +kernel
theorem dX5_othersHaveWanted_93 : decode cX5_othersHaveWanted 93 = .ok (.ireturn, 1) := by decide +kernel
theorem dX5_power_0 : decode cX5_power 0 = .ok (.lconst 1, 1) := by decide +kernel
theorem dX5_power_1 : decode cX5_power 1 = .ok (.lstore_n 2, 1) := by decide +kernel
theorem dX5_power_2 : decode cX5_power 2 = .ok (.iconst 0, 1) := by decide +kernel
theorem dX5_power_3 : decode cX5_power 3 = .ok (.istore 4, 2) := by decide +kernel
theorem dX5_power_5 : decode cX5_power 5 = .ok (.iload 4, 2) := by decide +kernel
theorem dX5_power_7 : decode cX5_power 7 = .ok (.iload_n 1, 1) := by decide +kernel
theorem dX5_power_8 : decode cX5_power 8 = .ok (.if_icmp .ge 14, 3) := by decide +kernel
theorem dX5_power_11 : decode cX5_power 11 = .ok (.lload_n 2, 1) := by decide +kernel
theorem dX5_power_12 : decode cX5_power 12 = .ok (.iload_n 0, 1) := by decide +kernel
theorem dX5_power_13 : decode cX5_power 13 = .ok (.i2l, 1) := by decide +kernel
theorem dX5_power_14 : decode cX5_power 14 = .ok (.lmul, 1) := by decide +kernel
theorem dX5_power_15 : decode cX5_power 15 = .ok (.lstore_n 2, 1) := by decide +kernel
theorem dX5_power_16 : decode cX5_power 16 = .ok (.iinc 4 1, 3) := by decide +kernel
theorem dX5_power_19 : decode cX5_power 19 = .ok (.goto (-14), 3) := by decide +kernel
theorem dX5_power_22 : decode cX5_power 22 = .ok (.lload_n 2, 1) := by decide +kernel
theorem dX5_power_23 : decode cX5_power 23 = .ok (.lreturn, 1) := by decide +kernel
theorem dX5_choose_0 : decode cX5_choose 0 = .ok (.lconst 1, 1) := by decide +kernel
theorem dX5_choose_1 : decode cX5_choose 1 = .ok (.lstore_n 2, 1) := by decide +kernel
theorem dX5_choose_2 : decode cX5_choose 2 = .ok (.iconst 0, 1) := by decide +kernel
theorem dX5_choose_3 : decode cX5_choose 3 = .ok (.istore 4, 2) := by decide +kernel
theorem dX5_choose_5 : decode cX5_choose 5 = .ok (.iload 4, 2) := by decide +kernel
theorem dX5_choose_7 : decode cX5_choose 7 = .ok (.iload_n 1, 1) := by decide +kernel
theorem dX5_choose_8 : decode cX5_choose 8 = .ok (.if_icmp .ge 23, 3) := by decide +kernel
theorem dX5_choose_11 : decode cX5_choose 11 = .ok (.lload_n 2, 1) := by decide +kernel
theorem dX5_choose_12 : decode cX5_choose 12 = .ok (.iload_n 0, 1) := by decide +kernel
theorem dX5_choose_13 : decode cX5_choose 13 = .ok (.iload 4, 2) := by decide +kernel
theorem dX5_choose_15 : decode cX5_choose 15 = .ok (.isub, 1) := by decide +kernel
theorem dX5_choose_16 : decode cX5_choose 16 = .ok (.i2l, 1) := by decide +kernel
theorem dX5_choose_17 : decode cX5_choose 17 = .ok (.lmul, 1) := by decide +kernel
theorem dX5_choose_18 : decode cX5_choose 18 = .ok (.iload 4, 2) := by decide +kernel
theorem dX5_choose_20 : decode cX5_choose 20 = .ok (.iconst 1, 1) := by decide +kernel
theorem dX5_choose_21 : decode cX5_choose 21 = .ok (.iadd, 1) := by decide +kernel
theorem dX5_choose_22 : decode cX5_choose 22 = .ok (.i2l, 1) := by decide +kernel
theorem dX5_choose_23 : decode cX5_choose 23 = .ok (.ldiv, 1) := by decide +kernel
theorem dX5_choose_24 : decode cX5_choose 24 = .ok (.lstore_n 2, 1) := by decide +kernel
theorem dX5_choose_25 : decode cX5_choose 25 = .ok (.iinc 4 1, 3) := by decide +kernel
theorem dX5_choose_28 : decode cX5_choose 28 = .ok (.goto (-23), 3) := by decide +kernel
theorem dX5_choose_31 : decode cX5_choose 31 = .ok (.lload_n 2, 1) := by decide +kernel
theorem dX5_choose_32 : decode cX5_choose 32 = .ok (.lreturn, 1) := by decide +kernel
theorem dX5_waysOfAtLeast_0 : decode cX5_waysOfAtLeast 0 = .ok (.lconst 0, 1) := by decide +kernel
theorem dX5_waysOfAtLeast_1 : decode cX5_waysOfAtLeast 1 = .ok (.lstore_n 3, 1) := by decide +kernel
theorem dX5_waysOfAtLeast_2 : decode cX5_waysOfAtLeast 2 = .ok (.iload_n 0, 1) := by decide +kernel
theorem dX5_waysOfAtLeast_3 : decode cX5_waysOfAtLeast 3 = .ok (.istore 5, 2) := by decide +kernel
theorem dX5_waysOfAtLeast_5 : decode cX5_waysOfAtLeast 5 = .ok (.iload 5, 2) := by decide +kernel
theorem dX5_waysOfAtLeast_7 : decode cX5_waysOfAtLeast 7 = .ok (.iload_n 1, 1) := by decide +kernel
theorem dX5_waysOfAtLeast_8 : decode cX5_waysOfAtLeast 8 = .ok (.if_icmp .gt 29, 3) := by decide +kernel
theorem dX5_waysOfAtLeast_11 : decode cX5_waysOfAtLeast 11 = .ok (.lload_n 3, 1) := by decide +kernel
theorem dX5_waysOfAtLeast_12 : decode cX5_waysOfAtLeast 12 = .ok (.iload_n 1, 1) := by decide +kernel
theorem dX5_waysOfAtLeast_13 : decode cX5_waysOfAtLeast 13 = .ok (.iload 5, 2) := by decide +kernel
theorem dX5_waysOfAtLeast_15 : decode cX5_waysOfAtLeast 15 = .ok (.invokestatic 341, 3) := by decide +kernel
theorem dX5_waysOfAtLeast_18 : decode cX5_waysOfAtLeast 18 = .ok (.iload_n 2, 1) := by decide +kernel
theorem dX5_waysOfAtLeast_19 : decode cX5_waysOfAtLeast 19 = .ok (.iconst 1, 1) := by decide +kernel
theorem dX5_waysOfAtLeast_20 : decode cX5_waysOfAtLeast 20 = .ok (.isub, 1) := by decide +kernel
theorem dX5_waysOfAtLeast_21 : decode cX5_waysOfAtLeast 21 = .ok (.iload_n 1, 1) := by decide +kernel
theorem dX5_waysOfAtLeast_22 : decode cX5_waysOfAtLeast 22 = .ok (.iload 5, 2) := by decide +kernel
theorem dX5_waysOfAtLeast_24 : decode cX5_waysOfAtLeast 24 = .ok (.isub, 1) := by decide +kernel
theorem dX5_waysOfAtLeast_25 : decode cX5_waysOfAtLeast 25 = .ok (.invokestatic 285, 3) := by decide +kernel
theorem dX5_waysOfAtLeast_28 : decode cX5_waysOfAtLeast 28 = .ok (.lmul, 1) := by decide +kernel
theorem dX5_waysOfAtLeast_29 : decode cX5_waysOfAtLeast 29 = .ok (.ladd, 1) := by decide +kernel
theorem dX5_waysOfAtLeast_30 : decode cX5_waysOfAtLeast 30 = .ok (.lstore_n 3, 1) := by decide +kernel
theorem dX5_waysOfAtLeast_31 : decode cX5_waysOfAtLeast 31 = .ok (.iinc 5 1, 3) := by decide +kernel
theorem dX5_waysOfAtLeast_34 : decode cX5_waysOfAtLeast 34 = .ok (.goto (-29), 3) := by decide +kernel
theorem dX5_waysOfAtLeast_37 : decode cX5_waysOfAtLeast 37 = .ok (.lload_n 3, 1) := by decide +kernel
theorem dX5_waysOfAtLeast_38 : decode cX5_waysOfAtLeast 38 = .ok (.lreturn, 1) := by decide +kernel
