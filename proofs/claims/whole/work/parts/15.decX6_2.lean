theorem dX6_move_82 : decode cX6_move 82 = .ok (.iload_n 1, 1) := by decide +kernel
theorem dX6_move_83 : decode cX6_move 83 = .ok (.iaload, 1) := by decide +kernel
theorem dX6_move_84 : decode cX6_move 84 = .ok (.bipush 20, 2) := by decide +kernel
theorem dX6_move_86 : decode cX6_move 86 = .ok (.if_icmp .ne 8, 3) := by decide +kernel
theorem dX6_move_89 : decode cX6_move 89 = .ok (.bipush (-3), 2) := by decide +kernel
theorem dX6_move_91 : decode cX6_move 91 = .ok (.goto 14, 3) := by decide +kernel
theorem dX6_move_94 : decode cX6_move 94 = .ok (.aload_n 0, 1) := by decide +kernel
theorem dX6_move_95 : decode cX6_move 95 = .ok (.iload_n 1, 1) := by decide +kernel
theorem dX6_move_96 : decode cX6_move 96 = .ok (.iconst 1, 1) := by decide +kernel
theorem dX6_move_97 : decode cX6_move 97 = .ok (.iload_n 2, 1) := by decide +kernel
theorem dX6_move_98 : decode cX6_move 98 = .ok (.iload_n 3, 1) := by decide +kernel
theorem dX6_move_99 : decode cX6_move 99 = .ok (.iload 4, 2) := by decide +kernel
theorem dX6_move_101 : decode cX6_move 101 = .ok (.iconst 0, 1) := by decide +kernel
theorem dX6_move_102 : decode cX6_move 102 = .ok (.invokevirtual 188, 3) := by decide +kernel
theorem dX6_move_105 : decode cX6_move 105 = .ok (.ireturn, 1) := by decide +kernel
theorem dX6_gone_0 : decode cX6_gone 0 = .ok (.aload_n 0, 1) := by decide +kernel
theorem dX6_gone_1 : decode cX6_gone 1 = .ok (.iconst 0, 1) := by decide +kernel
theorem dX6_gone_2 : decode cX6_gone 2 = .ok (.putfield 106, 3) := by decide +kernel
theorem dX6_gone_5 : decode cX6_gone 5 = .ok (.aload_n 0, 1) := by decide +kernel
theorem dX6_gone_6 : decode cX6_gone 6 = .ok (.iload_n 1, 1) := by decide +kernel
theorem dX6_gone_7 : decode cX6_gone 7 = .ok (.invokevirtual 179, 3) := by decide +kernel
theorem dX6_gone_10 : decode cX6_gone 10 = .ok (.ifCond .eq 10, 3) := by decide +kernel
theorem dX6_gone_13 : decode cX6_gone 13 = .ok (.iload_n 2, 1) := by decide +kernel
theorem dX6_gone_14 : decode cX6_gone 14 = .ok (.invokestatic 182, 3) := by decide +kernel
theorem dX6_gone_17 : decode cX6_gone 17 = .ok (.ifCond .ne 5, 3) := by decide +kernel
theorem dX6_gone_20 : decode cX6_gone 20 = .ok (.iconst (-1), 1) := by decide +kernel
theorem dX6_gone_21 : decode cX6_gone 21 = .ok (.ireturn, 1) := by decide +kernel
theorem dX6_gone_22 : decode cX6_gone 22 = .ok (.aload_n 0, 1) := by decide +kernel
theorem dX6_gone_23 : decode cX6_gone 23 = .ok (.iload_n 1, 1) := by decide +kernel
theorem dX6_gone_24 : decode cX6_gone 24 = .ok (.invokevirtual 176, 3) := by decide +kernel
theorem dX6_gone_27 : decode cX6_gone 27 = .ok (.iload_n 2, 1) := by decide +kernel
theorem dX6_gone_28 : decode cX6_gone 28 = .ok (.ifCond .eq 12, 3) := by decide +kernel
theorem dX6_gone_31 : decode cX6_gone 31 = .ok (.aload_n 0, 1) := by decide +kernel
theorem dX6_gone_32 : decode cX6_gone 32 = .ok (.getfield 46, 3) := by decide +kernel
theorem dX6_gone_35 : decode cX6_gone 35 = .ok (.iload_n 2, 1) := by decide +kernel
theorem dX6_gone_36 : decode cX6_gone 36 = .ok (.baload, 1) := by decide +kernel
theorem dX6_gone_37 : decode cX6_gone 37 = .ok (.ifCond .ne 6, 3) := by decide +kernel
theorem dX6_gone_40 : decode cX6_gone 40 = .ok (.bipush (-2), 2) := by decide +kernel
theorem dX6_gone_42 : decode cX6_gone 42 = .ok (.ireturn, 1) := by decide +kernel
theorem dX6_gone_43 : decode cX6_gone 43 = .ok (.aload_n 0, 1) := by decide +kernel
theorem dX6_gone_44 : decode cX6_gone 44 = .ok (.getfield 13, 3) := by decide +kernel
theorem dX6_gone_47 : decode cX6_gone 47 = .ok (.iload_n 1, 1) := by decide +kernel
theorem dX6_gone_48 : decode cX6_gone 48 = .ok (.iaload, 1) := by decide +kernel
theorem dX6_gone_49 : decode cX6_gone 49 = .ok (.bipush 20, 2) := by decide +kernel
theorem dX6_gone_51 : decode cX6_gone 51 = .ok (.if_icmp .ne 8, 3) := by decide +kernel
theorem dX6_gone_54 : decode cX6_gone 54 = .ok (.bipush (-3), 2) := by decide +kernel
theorem dX6_gone_56 : decode cX6_gone 56 = .ok (.goto 13, 3) := by decide +kernel
theorem dX6_gone_59 : decode cX6_gone 59 = .ok (.aload_n 0, 1) := by decide +kernel
theorem dX6_gone_60 : decode cX6_gone 60 = .ok (.iload_n 1, 1) := by decide +kernel
theorem dX6_gone_61 : decode cX6_gone 61 = .ok (.iconst 2, 1) := by decide +kernel
theorem dX6_gone_62 : decode cX6_gone 62 = .ok (.iload_n 2, 1) := by decide +kernel
theorem dX6_gone_63 : decode cX6_gone 63 = .ok (.iconst 0, 1) := by decide +kernel
theorem dX6_gone_64 : decode cX6_gone 64 = .ok (.iconst 0, 1) := by decide +kernel
theorem dX6_gone_65 : decode cX6_gone 65 = .ok (.iconst 0, 1) := by decide +kernel
theorem dX6_gone_66 : decode cX6_gone 66 = .ok (.invokevirtual 188, 3) := by decide +kernel
theorem dX6_gone_69 : decode cX6_gone 69 = .ok (.ireturn, 1) := by decide +kernel
theorem dX6_byteOf_0 : decode cX6_byteOf 0 = .ok (.lload_n 0, 1) := by decide +kernel
theorem dX6_byteOf_1 : decode cX6_byteOf 1 = .ok (.bipush 8, 2) := by decide +kernel
theorem dX6_byteOf_3 : decode cX6_byteOf 3 = .ok (.iload_n 2, 1) := by decide +kernel
theorem dX6_byteOf_4 : decode cX6_byteOf 4 = .ok (.iconst 1, 1) := by decide +kernel
theorem dX6_byteOf_5 : decode cX6_byteOf 5 = .ok (.isub, 1) := by decide +kernel
theorem dX6_byteOf_6 : decode cX6_byteOf 6 = .ok (.iload_n 3, 1) := by decide +kernel
theorem dX6_byteOf_7 : decode cX6_byteOf 7 = .ok (.isub, 1) := by decide +kernel
theorem dX6_byteOf_8 : decode cX6_byteOf 8 = .ok (.imul, 1) := by decide +kernel
theorem dX6_byteOf_9 : decode cX6_byteOf 9 = .ok (.lshr, 1) := by decide +kernel
theorem dX6_byteOf_10 : decode cX6_byteOf 10 = .ok (.ldc2_w 192, 3) := by decide +kernel
theorem dX6_byteOf_13 : decode cX6_byteOf 13 = .ok (.land, 1) := by decide +kernel
theorem dX6_byteOf_14 : decode cX6_byteOf 14 = .ok (.l2i, 1) := by decide +kernel
theorem dX6_byteOf_15 : decode cX6_byteOf 15 = .ok (.ireturn, 1) := by decide +kernel
theorem dX6_cuts_0 : decode cX6_cuts 0 = .ok (.lconst 0, 1) := by decide +kernel
theorem dX6_cuts_1 : decode cX6_cuts 1 = .ok (.lstore 4, 2) := by decide +kernel
theorem dX6_cuts_3 : decode cX6_cuts 3 = .ok (.iconst 0, 1) := by decide +kernel
theorem dX6_cuts_4 : decode cX6_cuts 4 = .ok (.istore 6, 2) := by decide +kernel
theorem dX6_cuts_6 : decode cX6_cuts 6 = .ok (.iconst 0, 1) := by decide +kernel
theorem dX6_cuts_7 : decode cX6_cuts 7 = .ok (.istore 7, 2) := by decide +kernel
theorem dX6_cuts_9 : decode cX6_cuts 9 = .ok (.iload 7, 2) := by decide +kernel
theorem dX6_cuts_11 : decode cX6_cuts 11 = .ok (.iload_n 3, 1) := by decide +kernel
theorem dX6_cuts_12 : decode cX6_cuts 12 = .ok (.if_icmp .ge 148, 3) := by decide +kernel
theorem dX6_cuts_15 : decode cX6_cuts 15 = .ok (.lload_n 1, 1) := by decide +kernel
theorem dX6_cuts_16 : decode cX6_cuts 16 = .ok (.iload_n 3, 1) := by decide +kernel
theorem dX6_cuts_17 : decode cX6_cuts 17 = .ok (.iload 7, 2) := by decide +kernel
theorem dX6_cuts_19 : decode cX6_cuts 19 = .ok (.invokestatic 194, 3) := by decide +kernel
theorem dX6_cuts_22 : decode cX6_cuts 22 = .ok (.istore 8, 2) := by decide +kernel
theorem dX6_cuts_24 : decode cX6_cuts 24 = .ok (.ldc2_w 198, 3) := by decide +kernel
theorem dX6_cuts_27 : decode cX6_cuts 27 = .ok (.lload 4, 2) := by decide +kernel
theorem dX6_cuts_29 : decode cX6_cuts 29 = .ok (.lmul, 1) := by decide +kernel
theorem dX6_cuts_30 : decode cX6_cuts 30 = .ok (.iload 8, 2) := by decide +kernel
theorem dX6_cuts_32 : decode cX6_cuts 32 = .ok (.i2l, 1) := by decide +kernel
theorem dX6_cuts_33 : decode cX6_cuts 33 = .ok (.ladd, 1) := by decide +kernel
theorem dX6_cuts_34 : decode cX6_cuts 34 = .ok (.lstore 4, 2) := by decide +kernel
theorem dX6_cuts_36 : decode cX6_cuts 36 = .ok (.iinc 6 1, 3) := by decide +kernel
theorem dX6_cuts_39 : decode cX6_cuts 39 = .ok (.iload 8, 2) := by decide +kernel
theorem dX6_cuts_41 : decode cX6_cuts 41 = .ok (.iconst 4, 1) := by decide +kernel
theorem dX6_cuts_42 : decode cX6_cuts 42 = .ok (.irem, 1) := by decide +kernel
theorem dX6_cuts_43 : decode cX6_cuts 43 = .ok (.iconst 3, 1) := by decide +kernel
theorem dX6_cuts_44 : decode cX6_cuts 44 = .ok (.if_icmp .eq 11, 3) := by decide +kernel
theorem dX6_cuts_47 : decode cX6_cuts 47 = .ok (.iload 7, 2) := by decide +kernel
theorem dX6_cuts_49 : decode cX6_cuts 49 = .ok (.iload_n 3, 1) := by decide +kernel
theorem dX6_cuts_50 : decode cX6_cuts 50 = .ok (.iconst 1, 1) := by decide +kernel
theorem dX6_cuts_51 : decode cX6_cuts 51 = .ok (.isub, 1) := by decide +kernel
theorem dX6_cuts_52 : decode cX6_cuts 52 = .ok (.if_icmp .ne 102, 3) := by decide +kernel
theorem dX6_cuts_55 : decode cX6_cuts 55 = .ok (.iconst 0, 1) := by decide +kernel
theorem dX6_cuts_56 : decode cX6_cuts 56 = .ok (.istore 9, 2) := by decide +kernel
theorem dX6_cuts_58 : decode cX6_cuts 58 = .ok (.iconst 0, 1) := by decide +kernel
theorem dX6_cuts_59 : decode cX6_cuts 59 = .ok (.istore 10, 2) := by decide +kernel
theorem dX6_cuts_61 : decode cX6_cuts 61 = .ok (.iload 10, 2) := by decide +kernel
theorem dX6_cuts_63 : decode cX6_cuts 63 = .ok (.aload_n 0, 1) := by decide +kernel
theorem dX6_cuts_64 : decode cX6_cuts 64 = .ok (.getfield 200, 3) := by decide +kernel
theorem dX6_cuts_67 : decode cX6_cuts 67 = .ok (.if_icmp .ge 44, 3) := by decide +kernel
theorem dX6_cuts_70 : decode cX6_cuts 70 = .ok (.iload 9, 2) := by decide +kernel
theorem dX6_cuts_72 : decode cX6_cuts 72 = .ok (.aload_n 0, 1) := by decide +kernel
theorem dX6_cuts_73 : decode cX6_cuts 73 = .ok (.getfield 85, 3) := by decide +kernel
theorem dX6_cuts_76 : decode cX6_cuts 76 = .ok (.iload 10, 2) := by decide +kernel
theorem dX6_cuts_78 : decode cX6_cuts 78 = .ok (.laload, 1) := by decide +kernel
theorem dX6_cuts_79 : decode cX6_cuts 79 = .ok (.lload 4, 2) := by decide +kernel
theorem dX6_cuts_81 : decode cX6_cuts 81 = .ok (.lcmp, 1) := by decide +kernel
theorem dX6_cuts_82 : decode cX6_cuts 82 = .ok (.ifCond .ne 19, 3) := by decide +kernel
theorem dX6_cuts_85 : decode cX6_cuts 85 = .ok (.aload_n 0, 1) := by decide +kernel
theorem dX6_cuts_86 : decode cX6_cuts 86 = .ok (.getfield 88, 3) := by decide +kernel
theorem dX6_cuts_89 : decode cX6_cuts 89 = .ok (.iload 10, 2) := by decide +kernel
theorem dX6_cuts_91 : decode cX6_cuts 91 = .ok (.iaload, 1) := by decide +kernel
theorem dX6_cuts_92 : decode cX6_cuts 92 = .ok (.iload 6, 2) := by decide +kernel
theorem dX6_cuts_94 : decode cX6_cuts 94 = .ok (.if_icmp .ne 7, 3) := by decide +kernel
theorem dX6_cuts_97 : decode cX6_cuts 97 = .ok (.iconst 1, 1) := by decide +kernel
theorem dX6_cuts_98 : decode cX6_cuts 98 = .ok (.goto 4, 3) := by decide +kernel
theorem dX6_cuts_101 : decode cX6_cuts 101 = .ok (.iconst 0, 1) := by decide +kernel
theorem dX6_cuts_102 : decode cX6_cuts 102 = .ok (.ior, 1) := by decide +kernel
theorem dX6_cuts_103 : decode cX6_cuts 103 = .ok (.istore 9, 2) := by decide +kernel
theorem dX6_cuts_105 : decode cX6_cuts 105 = .ok (.iinc 10 1, 3) := by decide +kernel
theorem dX6_cuts_108 : decode cX6_cuts 108 = .ok (.goto (-47), 3) := by decide +kernel
theorem dX6_cuts_111 : decode cX6_cuts 111 = .ok (.iload 9, 2) := by decide +kernel
theorem dX6_cuts_113 : decode cX6_cuts 113 = .ok (.ifCond .ne 35, 3) := by decide +kernel
theorem dX6_cuts_116 : decode cX6_cuts 116 = .ok (.aload_n 0, 1) := by decide +kernel
theorem dX6_cuts_117 : decode cX6_cuts 117 = .ok (.getfield 85, 3) := by decide +kernel
theorem dX6_cuts_120 : decode cX6_cuts 120 = .ok (.aload_n 0, 1) := by decide +kernel
theorem dX6_cuts_121 : decode cX6_cuts 121 = .ok (.getfield 200, 3) := by decide +kernel
theorem dX6_cuts_124 : decode cX6_cuts 124 = .ok (.lload 4, 2) := by decide +kernel
theorem dX6_cuts_126 : decode cX6_cuts 126 = .ok (.lastore, 1) := by decide +kernel
theorem dX6_cuts_127 : decode cX6_cuts 127 = .ok (.aload_n 0, 1) := by decide +kernel
theorem dX6_cuts_128 : decode cX6_cuts 128 = .ok (.getfield 88, 3) := by decide +kernel
theorem dX6_cuts_131 : decode cX6_cuts 131 = .ok (.aload_n 0, 1) := by decide +kernel
theorem dX6_cuts_132 : decode cX6_cuts 132 = .ok (.getfield 200, 3) := by decide +kernel
theorem dX6_cuts_135 : decode cX6_cuts 135 = .ok (.iload 6, 2) := by decide +kernel
theorem dX6_cuts_137 : decode cX6_cuts 137 = .ok (.iastore, 1) := by decide +kernel
theorem dX6_cuts_138 : decode cX6_cuts 138 = .ok (.aload_n 0, 1) := by decide +kernel
theorem dX6_cuts_139 : decode cX6_cuts 139 = .ok (.dup, 1) := by decide +kernel
theorem dX6_cuts_140 : decode cX6_cuts 140 = .ok (.getfield 200, 3) := by decide +kernel
theorem dX6_cuts_143 : decode cX6_cuts 143 = .ok (.iconst 1, 1) := by decide +kernel
theorem dX6_cuts_144 : decode cX6_cuts 144 = .ok (.iadd, 1) := by decide +kernel
theorem dX6_cuts_145 : decode cX6_cuts 145 = .ok (.putfield 200, 3) := by decide +kernel
theorem dX6_cuts_148 : decode cX6_cuts 148 = .ok (.lconst 0, 1) := by decide +kernel
theorem dX6_cuts_149 : decode cX6_cuts 149 = .ok (.lstore 4, 2) := by decide +kernel
theorem dX6_cuts_151 : decode cX6_cuts 151 = .ok (.iconst 0, 1) := by decide +kernel
theorem dX6_cuts_152 : decode cX6_cuts 152 = .ok (.istore 6, 2) := by decide +kernel
theorem dX6_cuts_154 : decode cX6_cuts 154 = .ok (.iinc 7 1, 3) := by decide +kernel
theorem dX6_cuts_157 : decode cX6_cuts 157 = .ok (.goto (-148), 3) := by decide +kernel
theorem dX6_cuts_160 : decode cX6_cuts 160 = .ok (.return_, 1) := by decide +kernel
theorem dX6_pieceAt_0 : decode cX6_pieceAt 0 = .ok (.bipush (-9), 2) := by decide +kernel
theorem dX6_pieceAt_2 : decode cX6_pieceAt 2 = .ok (.istore 5, 2) := by decide +kernel
theorem dX6_pieceAt_4 : decode cX6_pieceAt 4 = .ok (.iconst 0, 1) := by decide +kernel
theorem dX6_pieceAt_5 : decode cX6_pieceAt 5 = .ok (.istore 6, 2) := by decide +kernel
theorem dX6_pieceAt_7 : decode cX6_pieceAt 7 = .ok (.iload 6, 2) := by decide +kernel
theorem dX6_pieceAt_9 : decode cX6_pieceAt 9 = .ok (.aload_n 0, 1) := by decide +kernel
theorem dX6_pieceAt_10 : decode cX6_pieceAt 10 = .ok (.getfield 76, 3) := by decide +kernel
theorem dX6_pieceAt_13 : decode cX6_pieceAt 13 = .ok (.iload_n 1, 1) := by decide +kernel
theorem dX6_pieceAt_14 : decode cX6_pieceAt 14 = .ok (.iaload, 1) := by decide +kernel
theorem dX6_pieceAt_15 : decode cX6_pieceAt 15 = .ok (.if_icmp .ge 54, 3) := by decide +kernel
theorem dX6_pieceAt_18 : decode cX6_pieceAt 18 = .ok (.aload_n 0, 1) := by decide +kernel
theorem dX6_pieceAt_19 : decode cX6_pieceAt 19 = .ok (.getfield 79, 3) := by decide +kernel
theorem dX6_pieceAt_22 : decode cX6_pieceAt 22 = .ok (.sipush 200, 3) := by decide +kernel
theorem dX6_pieceAt_25 : decode cX6_pieceAt 25 = .ok (.iload_n 1, 1) := by decide +kernel
theorem dX6_pieceAt_26 : decode cX6_pieceAt 26 = .ok (.imul, 1) := by decide +kernel
theorem dX6_pieceAt_27 : decode cX6_pieceAt 27 = .ok (.iload 6, 2) := by decide +kernel
theorem dX6_pieceAt_29 : decode cX6_pieceAt 29 = .ok (.iadd, 1) := by decide +kernel
theorem dX6_pieceAt_30 : decode cX6_pieceAt 30 = .ok (.laload, 1) := by decide +kernel
theorem dX6_pieceAt_31 : decode cX6_pieceAt 31 = .ok (.lload_n 2, 1) := by decide +kernel
theorem dX6_pieceAt_32 : decode cX6_pieceAt 32 = .ok (.lcmp, 1) := by decide +kernel
theorem dX6_pieceAt_33 : decode cX6_pieceAt 33 = .ok (.ifCond .ne 26, 3) := by decide +kernel
theorem dX6_pieceAt_36 : decode cX6_pieceAt 36 = .ok (.aload_n 0, 1) := by decide +kernel
theorem dX6_pieceAt_37 : decode cX6_pieceAt 37 = .ok (.getfield 82, 3) := by decide +kernel
theorem dX6_pieceAt_40 : decode cX6_pieceAt 40 = .ok (.sipush 200, 3) := by decide +kernel
theorem dX6_pieceAt_43 : decode cX6_pieceAt 43 = .ok (.iload_n 1, 1) := by decide +kernel
theorem dX6_pieceAt_44 : decode cX6_pieceAt 44 = .ok (.imul, 1) := by decide +kernel
theorem dX6_pieceAt_45 : decode cX6_pieceAt 45 = .ok (.iload 6, 2) := by decide +kernel
theorem dX6_pieceAt_47 : decode cX6_pieceAt 47 = .ok (.iadd, 1) := by decide +kernel
theorem dX6_pieceAt_48 : decode cX6_pieceAt 48 = .ok (.iaload, 1) := by decide +kernel
theorem dX6_pieceAt_49 : decode cX6_pieceAt 49 = .ok (.iload 4, 2) := by decide +kernel
theorem dX6_pieceAt_51 : decode cX6_pieceAt 51 = .ok (.if_icmp .ne 8, 3) := by decide +kernel
theorem dX6_pieceAt_54 : decode cX6_pieceAt 54 = .ok (.iload 6, 2) := by decide +kernel
theorem dX6_pieceAt_56 : decode cX6_pieceAt 56 = .ok (.goto 5, 3) := by decide +kernel
theorem dX6_pieceAt_59 : decode cX6_pieceAt 59 = .ok (.iload 5, 2) := by decide +kernel
theorem dX6_pieceAt_61 : decode cX6_pieceAt 61 = .ok (.istore 5, 2) := by decide +kernel
theorem dX6_pieceAt_63 : decode cX6_pieceAt 63 = .ok (.iinc 6 1, 3) := by decide +kernel
theorem dX6_pieceAt_66 : decode cX6_pieceAt 66 = .ok (.goto (-59), 3) := by decide +kernel
theorem dX6_pieceAt_69 : decode cX6_pieceAt 69 = .ok (.iload 5, 2) := by decide +kernel
theorem dX6_pieceAt_71 : decode cX6_pieceAt 71 = .ok (.ireturn, 1) := by decide +kernel
theorem dX6_bytesAt_0 : decode cX6_bytesAt 0 = .ok (.iconst 0, 1) := by decide +kernel
theorem dX6_bytesAt_1 : decode cX6_bytesAt 1 = .ok (.istore_n 2, 1) := by decide +kernel
theorem dX6_bytesAt_2 : decode cX6_bytesAt 2 = .ok (.iconst 0, 1) := by decide +kernel
theorem dX6_bytesAt_3 : decode cX6_bytesAt 3 = .ok (.istore_n 3, 1) := by decide +kernel
theorem dX6_bytesAt_4 : decode cX6_bytesAt 4 = .ok (.iload_n 3, 1) := by decide +kernel
theorem dX6_bytesAt_5 : decode cX6_bytesAt 5 = .ok (.aload_n 0, 1) := by decide +kernel
theorem dX6_bytesAt_6 : decode cX6_bytesAt 6 = .ok (.getfield 76, 3) := by decide +kernel
theorem dX6_bytesAt_9 : decode cX6_bytesAt 9 = .ok (.iload_n 1, 1) := by decide +kernel
theorem dX6_bytesAt_10 : decode cX6_bytesAt 10 = .ok (.iaload, 1) := by decide +kernel
theorem dX6_bytesAt_11 : decode cX6_bytesAt 11 = .ok (.if_icmp .ge 24, 3) := by decide +kernel
theorem dX6_bytesAt_14 : decode cX6_bytesAt 14 = .ok (.iload_n 2, 1) := by decide +kernel
theorem dX6_bytesAt_15 : decode cX6_bytesAt 15 = .ok (.aload_n 0, 1) := by decide +kernel
theorem dX6_bytesAt_16 : decode cX6_bytesAt 16 = .ok (.getfield 82, 3) := by decide +kernel
theorem dX6_bytesAt_19 : decode cX6_bytesAt 19 = .ok (.sipush 200, 3) := by decide +kernel
theorem dX6_bytesAt_22 : decode cX6_bytesAt 22 = .ok (.iload_n 1, 1) := by decide +kernel
theorem dX6_bytesAt_23 : decode cX6_bytesAt 23 = .ok (.imul, 1) := by decide +kernel
theorem dX6_bytesAt_24 : decode cX6_bytesAt 24 = .ok (.iload_n 3, 1) := by decide +kernel
theorem dX6_bytesAt_25 : decode cX6_bytesAt 25 = .ok (.iadd, 1) := by decide +kernel
theorem dX6_bytesAt_26 : decode cX6_bytesAt 26 = .ok (.iaload, 1) := by decide +kernel
theorem dX6_bytesAt_27 : decode cX6_bytesAt 27 = .ok (.iadd, 1) := by decide +kernel
theorem dX6_bytesAt_28 : decode cX6_bytesAt 28 = .ok (.istore_n 2, 1) := by decide +kernel
theorem dX6_bytesAt_29 : decode cX6_bytesAt 29 = .ok (.iinc 3 1, 3) := by decide +kernel
theorem dX6_bytesAt_32 : decode cX6_bytesAt 32 = .ok (.goto (-28), 3) := by decide +kernel
theorem dX6_bytesAt_35 : decode cX6_bytesAt 35 = .ok (.iload_n 2, 1) := by decide +kernel
theorem dX6_bytesAt_36 : decode cX6_bytesAt 36 = .ok (.ireturn, 1) := by decide +kernel
theorem dX6_lacking_0 : decode cX6_lacking 0 = .ok (.iconst 0, 1) := by decide +kernel
theorem dX6_lacking_1 : decode cX6_lacking 1 = .ok (.istore_n 2, 1) := by decide +kernel
theorem dX6_lacking_2 : decode cX6_lacking 2 = .ok (.iconst 0, 1) := by decide +kernel
theorem dX6_lacking_3 : decode cX6_lacking 3 = .ok (.istore_n 3, 1) := by decide +kernel
theorem dX6_lacking_4 : decode cX6_lacking 4 = .ok (.iload_n 3, 1) := by decide +kernel
theorem dX6_lacking_5 : decode cX6_lacking 5 = .ok (.aload_n 0, 1) := by decide +kernel
theorem dX6_lacking_6 : decode cX6_lacking 6 = .ok (.getfield 200, 3) := by decide +kernel
theorem dX6_lacking_9 : decode cX6_lacking 9 = .ok (.if_icmp .ge 44, 3) := by decide +kernel
theorem dX6_lacking_12 : decode cX6_lacking 12 = .ok (.iload_n 2, 1) := by decide +kernel
theorem dX6_lacking_13 : decode cX6_lacking 13 = .ok (.aload_n 0, 1) := by decide +kernel
theorem dX6_lacking_14 : decode cX6_lacking 14 = .ok (.iload_n 1, 1) := by decide +kernel
theorem dX6_lacking_15 : decode cX6_lacking 15 = .ok (.aload_n 0, 1) := by decide +kernel
theorem dX6_lacking_16 : decode cX6_lacking 16 = .ok (.getfield 85, 3) := by decide +kernel
theorem dX6_lacking_19 : decode cX6_lacking 19 = .ok (.iload_n 3, 1) := by decide +kernel
theorem dX6_lacking_20 : decode cX6_lacking 20 = .ok (.laload, 1) := by decide +kernel
theorem dX6_lacking_21 : decode cX6_lacking 21 = .ok (.aload_n 0, 1) := by decide +kernel
theorem dX6_lacking_22 : decode cX6_lacking 22 = .ok (.getfield 88, 3) := by decide +kernel
theorem dX6_lacking_25 : decode cX6_lacking 25 = .ok (.iload_n 3, 1) := by decide +kernel
theorem dX6_lacking_26 : decode cX6_lacking 26 = .ok (.iaload, 1) := by decide +kernel
theorem dX6_lacking_27 : decode cX6_lacking 27 = .ok (.invokevirtual 203, 3) := by decide +kernel
theorem dX6_lacking_30 : decode cX6_lacking 30 = .ok (.bipush (-9), 2) := by decide +kernel
theorem dX6_lacking_32 : decode cX6_lacking 32 = .ok (.if_icmp .ne 12, 3) := by decide +kernel
theorem dX6_lacking_35 : decode cX6_lacking 35 = .ok (.aload_n 0, 1) := by decide +kernel
theorem dX6_lacking_36 : decode cX6_lacking 36 = .ok (.getfield 88, 3) := by decide +kernel
theorem dX6_lacking_39 : decode cX6_lacking 39 = .ok (.iload_n 3, 1) := by decide +kernel
theorem dX6_lacking_40 : decode cX6_lacking 40 = .ok (.iaload, 1) := by decide +kernel
theorem dX6_lacking_41 : decode cX6_lacking 41 = .ok (.goto 4, 3) := by decide +kernel
theorem dX6_lacking_44 : decode cX6_lacking 44 = .ok (.iconst 0, 1) := by decide +kernel
theorem dX6_lacking_45 : decode cX6_lacking 45 = .ok (.iadd, 1) := by decide +kernel
theorem dX6_lacking_46 : decode cX6_lacking 46 = .ok (.istore_n 2, 1) := by decide +kernel
theorem dX6_lacking_47 : decode cX6_lacking 47 = .ok (.iinc 3 1, 3) := by decide +kernel
theorem dX6_lacking_50 : decode cX6_lacking 50 = .ok (.goto (-46), 3) := by decide +kernel
theorem dX6_lacking_53 : decode cX6_lacking 53 = .ok (.iload_n 2, 1) := by decide +kernel
theorem dX6_lacking_54 : decode cX6_lacking 54 = .ok (.ireturn, 1) := by decide +kernel
theorem dX6_takes_0 : decode cX6_takes 0 = .ok (.iconst 0, 1) := by decide +kernel
theorem dX6_takes_1 : decode cX6_takes 1 = .ok (.istore_n 2, 1) := by decide +kernel
theorem dX6_takes_2 : decode cX6_takes 2 = .ok (.iload_n 2, 1) := by decide +kernel
theorem dX6_takes_3 : decode cX6_takes 3 = .ok (.aload_n 0, 1) := by decide +kernel
theorem dX6_takes_4 : decode cX6_takes 4 = .ok (.getfield 200, 3) := by decide +kernel
theorem dX6_takes_7 : decode cX6_takes 7 = .ok (.if_icmp .ge 78, 3) := by decide +kernel
theorem dX6_takes_10 : decode cX6_takes 10 = .ok (.aload_n 0, 1) := by decide +kernel
theorem dX6_takes_11 : decode cX6_takes 11 = .ok (.iload_n 1, 1) := by decide +kernel
theorem dX6_takes_12 : decode cX6_takes 12 = .ok (.aload_n 0, 1) := by decide +kernel
theorem dX6_takes_13 : decode cX6_takes 13 = .ok (.getfield 85, 3) := by decide +kernel
theorem dX6_takes_16 : decode cX6_takes 16 = .ok (.iload_n 2, 1) := by decide +kernel
theorem dX6_takes_17 : decode cX6_takes 17 = .ok (.laload, 1) := by decide +kernel
theorem dX6_takes_18 : decode cX6_takes 18 = .ok (.aload_n 0, 1) := by decide +kernel
theorem dX6_takes_19 : decode cX6_takes 19 = .ok (.getfield 88, 3) := by decide +kernel
theorem dX6_takes_22 : decode cX6_takes 22 = .ok (.iload_n 2, 1) := by decide +kernel
theorem dX6_takes_23 : decode cX6_takes 23 = .ok (.iaload, 1) := by decide +kernel
theorem dX6_takes_24 : decode cX6_takes 24 = .ok (.invokevirtual 203, 3) := by decide +kernel
theorem dX6_takes_27 : decode cX6_takes 27 = .ok (.bipush (-9), 2) := by decide +kernel
theorem dX6_takes_29 : decode cX6_takes 29 = .ok (.if_icmp .ne 50, 3) := by decide +kernel
theorem dX6_takes_32 : decode cX6_takes 32 = .ok (.sipush 200, 3) := by decide +kernel
theorem dX6_takes_35 : decode cX6_takes 35 = .ok (.iload_n 1, 1) := by decide +kernel
theorem dX6_takes_36 : decode cX6_takes 36 = .ok (.imul, 1) := by decide +kernel
theorem dX6_takes_37 : decode cX6_takes 37 = .ok (.aload_n 0, 1) := by decide +kernel
theorem dX6_takes_38 : decode cX6_takes 38 = .ok (.getfield 76, 3) := by decide +kernel
theorem dX6_takes_41 : decode cX6_takes 41 = .ok (.iload_n 1, 1) := by decide +kernel
theorem dX6_takes_42 : decode cX6_takes 42 = .ok (.iaload, 1) := by decide +kernel
theorem dX6_takes_43 : decode cX6_takes 43 = .ok (.iadd, 1) := by decide +kernel
theorem dX6_takes_44 : decode cX6_takes 44 = .ok (.istore_n 3, 1) := by decide +kernel
theorem dX6_takes_45 : decode cX6_takes 45 = .ok (.aload_n 0, 1) := by decide +kernel
theorem dX6_takes_46 : decode cX6_takes 46 = .ok (.getfield 79, 3) := by decide +kernel
theorem dX6_takes_49 : decode cX6_takes 49 = .ok (.iload_n 3, 1) := by decide +kernel
theorem dX6_takes_50 : decode cX6_takes 50 = .ok (.aload_n 0, 1) := by decide +kernel
theorem dX6_takes_51 : decode cX6_takes 51 = .ok (.getfield 85, 3) := by decide +kernel
theorem dX6_takes_54 : decode cX6_takes 54 = .ok (.iload_n 2, 1) := by decide +kernel
theorem dX6_takes_55 : decode cX6_takes 55 = .ok (.laload, 1) := by decide +kernel
theorem dX6_takes_56 : decode cX6_takes 56 = .ok (.lastore, 1) := by decide +kernel
theorem dX6_takes_57 : decode cX6_takes 57 = .ok (.aload_n 0, 1) := by decide +kernel
theorem dX6_takes_58 : decode cX6_takes 58 = .ok (.getfield 82, 3) := by decide +kernel
theorem dX6_takes_61 : decode cX6_takes 61 = .ok (.iload_n 3, 1) := by decide +kernel
theorem dX6_takes_62 : decode cX6_takes 62 = .ok (.aload_n 0, 1) := by decide +kernel
theorem dX6_takes_63 : decode cX6_takes 63 = .ok (.getfield 88, 3) := by decide +kernel
theorem dX6_takes_66 : decode cX6_takes 66 = .ok (.iload_n 2, 1) := by decide +kernel
theorem dX6_takes_67 : decode cX6_takes 67 = .ok (.iaload, 1) := by decide +kernel
theorem dX6_takes_68 : decode cX6_takes 68 = .ok (.iastore, 1) := by decide +kernel
theorem dX6_takes_69 : decode cX6_takes 69 = .ok (.aload_n 0, 1) := by decide +kernel
theorem dX6_takes_70 : decode cX6_takes 70 = .ok (.getfield 76, 3) := by decide +kernel
theorem dX6_takes_73 : decode cX6_takes 73 = .ok (.iload_n 1, 1) := by decide +kernel
theorem dX6_takes_74 : decode cX6_takes 74 = .ok (.dup2, 1) := by decide +kernel
theorem dX6_takes_75 : decode cX6_takes 75 = .ok (.iaload, 1) := by decide +kernel
theorem dX6_takes_76 : decode cX6_takes 76 = .ok (.iconst 1, 1) := by decide +kernel
theorem dX6_takes_77 : decode cX6_takes 77 = .ok (.iadd, 1) := by decide +kernel
theorem dX6_takes_78 : decode cX6_takes 78 = .ok (.iastore, 1) := by decide +kernel
theorem dX6_takes_79 : decode cX6_takes 79 = .ok (.iinc 2 1, 3) := by decide +kernel
theorem dX6_takes_82 : decode cX6_takes 82 = .ok (.goto (-80), 3) := by decide +kernel
theorem dX6_takes_85 : decode cX6_takes 85 = .ok (.return_, 1) := by decide +kernel
theorem dX6_isFile_0 : decode cX6_isFile 0 = .ok (.aload_n 0, 1) := by decide +kernel
theorem dX6_isFile_1 : decode cX6_isFile 1 = .ok (.getfield 46, 3) := by decide +kernel
theorem dX6_isFile_4 : decode cX6_isFile 4 = .ok (.iload_n 1, 1) := by decide +kernel
theorem dX6_isFile_5 : decode cX6_isFile 5 = .ok (.baload, 1) := by decide +kernel
theorem dX6_isFile_6 : decode cX6_isFile 6 = .ok (.ifCond .eq 17, 3) := by decide +kernel
theorem dX6_isFile_9 : decode cX6_isFile 9 = .ok (.aload_n 0, 1) := by decide +kernel
theorem dX6_isFile_10 : decode cX6_isFile 10 = .ok (.getfield 49, 3) := by decide +kernel
theorem dX6_isFile_13 : decode cX6_isFile 13 = .ok (.iload_n 1, 1) := by decide +kernel
theorem dX6_isFile_14 : decode cX6_isFile 14 = .ok (.iaload, 1) := by decide +kernel
theorem dX6_isFile_15 : decode cX6_isFile 15 = .ok (.iconst 1, 1) := by decide +kernel
theorem dX6_isFile_16 : decode cX6_isFile 16 = .ok (.if_icmp .ne 7, 3) := by decide +kernel
theorem dX6_isFile_19 : decode cX6_isFile 19 = .ok (.iconst 1, 1) := by decide +kernel
theorem dX6_isFile_20 : decode cX6_isFile 20 = .ok (.goto 4, 3) := by decide +kernel
theorem dX6_isFile_23 : decode cX6_isFile 23 = .ok (.iconst 0, 1) := by decide +kernel
theorem dX6_isFile_24 : decode cX6_isFile 24 = .ok (.ireturn, 1) := by decide +kernel
theorem dX6_write_0 : decode cX6_write 0 = .ok (.aload_n 0, 1) := by decide +kernel
theorem dX6_write_1 : decode cX6_write 1 = .ok (.iconst 0, 1) := by decide +kernel
theorem dX6_write_2 : decode cX6_write 2 = .ok (.putfield 106, 3) := by decide +kernel
theorem dX6_write_5 : decode cX6_write 5 = .ok (.aload_n 0, 1) := by decide +kernel
theorem dX6_write_6 : decode cX6_write 6 = .ok (.iload_n 1, 1) := by decide +kernel
theorem dX6_write_7 : decode cX6_write 7 = .ok (.invokevirtual 179, 3) := by decide +kernel
theorem dX6_write_10 : decode cX6_write 10 = .ok (.ifCond .eq 21, 3) := by decide +kernel
theorem dX6_write_13 : decode cX6_write 13 = .ok (.iload_n 2, 1) := by decide +kernel
theorem dX6_write_14 : decode cX6_write 14 = .ok (.invokestatic 182, 3) := by decide +kernel
theorem dX6_write_17 : decode cX6_write 17 = .ok (.ifCond .eq 14, 3) := by decide +kernel
theorem dX6_write_20 : decode cX6_write 20 = .ok (.iload 5, 2) := by decide +kernel
theorem dX6_write_22 : decode cX6_write 22 = .ok (.iconst 0, 1) := by decide +kernel
theorem dX6_write_23 : decode cX6_write 23 = .ok (.bipush 8, 2) := by decide +kernel
theorem dX6_write_25 : decode cX6_write 25 = .ok (.invokestatic 115, 3) := by decide +kernel
theorem dX6_write_28 : decode cX6_write 28 = .ok (.ifCond .ne 5, 3) := by decide +kernel
theorem dX6_write_31 : decode cX6_write 31 = .ok (.iconst (-1), 1) := by decide +kernel
theorem dX6_write_32 : decode cX6_write 32 = .ok (.ireturn, 1) := by decide +kernel
theorem dX6_write_33 : decode cX6_write 33 = .ok (.aload_n 0, 1) := by decide +kernel
theorem dX6_write_34 : decode cX6_write 34 = .ok (.iload_n 1, 1) := by decide +kernel
theorem dX6_write_35 : decode cX6_write 35 = .ok (.invokevirtual 176, 3) := by decide +kernel
theorem dX6_write_38 : decode cX6_write 38 = .ok (.aload_n 0, 1) := by decide +kernel
theorem dX6_write_39 : decode cX6_write 39 = .ok (.iconst 0, 1) := by decide +kernel
theorem dX6_write_40 : decode cX6_write 40 = .ok (.putfield 200, 3) := by decide +kernel
theorem dX6_write_43 : decode cX6_write 43 = .ok (.aload_n 0, 1) := by decide +kernel
theorem dX6_write_44 : decode cX6_write 44 = .ok (.lload_n 3, 1) := by decide +kernel
theorem dX6_write_45 : decode cX6_write 45 = .ok (.iload 5, 2) := by decide +kernel
theorem dX6_write_47 : decode cX6_write 47 = .ok (.invokevirtual 207, 3) := by decide +kernel
theorem dX6_write_50 : decode cX6_write 50 = .ok (.aload_n 0, 1) := by decide +kernel
theorem dX6_write_51 : decode cX6_write 51 = .ok (.iload_n 2, 1) := by decide +kernel
theorem dX6_write_52 : decode cX6_write 52 = .ok (.invokevirtual 211, 3) := by decide +kernel
theorem dX6_write_55 : decode cX6_write 55 = .ok (.ifCond .eq 23, 3) := by decide +kernel
theorem dX6_write_58 : decode cX6_write 58 = .ok (.aload_n 0, 1) := by decide +kernel
theorem dX6_write_59 : decode cX6_write 59 = .ok (.iload_n 1, 1) := by decide +kernel
theorem dX6_write_60 : decode cX6_write 60 = .ok (.invokevirtual 214, 3) := by decide +kernel
theorem dX6_write_63 : decode cX6_write 63 = .ok (.aload_n 0, 1) := by decide +kernel
theorem dX6_write_64 : decode cX6_write 64 = .ok (.iload_n 1, 1) := by decide +kernel
theorem dX6_write_65 : decode cX6_write 65 = .ok (.invokevirtual 218, 3) := by decide +kernel
theorem dX6_write_68 : decode cX6_write 68 = .ok (.iadd, 1) := by decide +kernel
theorem dX6_write_69 : decode cX6_write 69 = .ok (.aload_n 0, 1) := by decide +kernel
theorem dX6_write_70 : decode cX6_write 70 = .ok (.getfield 73, 3) := by decide +kernel
theorem dX6_write_73 : decode cX6_write 73 = .ok (.iload_n 1, 1) := by decide +kernel
theorem dX6_write_74 : decode cX6_write 74 = .ok (.iaload, 1) := by decide +kernel
theorem dX6_write_75 : decode cX6_write 75 = .ok (.if_icmp .le 6, 3) := by decide +kernel
theorem dX6_write_78 : decode cX6_write 78 = .ok (.bipush (-2), 2) := by decide +kernel
theorem dX6_write_80 : decode cX6_write 80 = .ok (.ireturn, 1) := by decide +kernel
theorem dX6_write_81 : decode cX6_write 81 = .ok (.aload_n 0, 1) := by decide +kernel
theorem dX6_write_82 : decode cX6_write 82 = .ok (.getfield 13, 3) := by decide +kernel
theorem dX6_write_85 : decode cX6_write 85 = .ok (.iload_n 1, 1) := by decide +kernel
theorem dX6_write_86 : decode cX6_write 86 = .ok (.iaload, 1) := by decide +kernel
theorem dX6_write_87 : decode cX6_write 87 = .ok (.bipush 20, 2) := by decide +kernel
theorem dX6_write_89 : decode cX6_write 89 = .ok (.if_icmp .ne 6, 3) := by decide +kernel
theorem dX6_write_92 : decode cX6_write 92 = .ok (.bipush (-3), 2) := by decide +kernel
theorem dX6_write_94 : decode cX6_write 94 = .ok (.ireturn, 1) := by decide +kernel
theorem dX6_write_95 : decode cX6_write 95 = .ok (.aload_n 0, 1) := by decide +kernel
theorem dX6_write_96 : decode cX6_write 96 = .ok (.iload_n 1, 1) := by decide +kernel
theorem dX6_write_97 : decode cX6_write 97 = .ok (.invokevirtual 221, 3) := by decide +kernel
theorem dX6_write_100 : decode cX6_write 100 = .ok (.aload_n 0, 1) := by decide +kernel
theorem dX6_write_101 : decode cX6_write 101 = .ok (.getfield 20, 3) := by decide +kernel
theorem dX6_write_104 : decode cX6_write 104 = .ok (.bipush 20, 2) := by decide +kernel
theorem dX6_write_106 : decode cX6_write 106 = .ok (.iload_n 1, 1) := by decide +kernel
theorem dX6_write_107 : decode cX6_write 107 = .ok (.imul, 1) := by decide +kernel
theorem dX6_write_108 : decode cX6_write 108 = .ok (.aload_n 0, 1) := by decide +kernel
theorem dX6_write_109 : decode cX6_write 109 = .ok (.getfield 13, 3) := by decide +kernel
theorem dX6_write_112 : decode cX6_write 112 = .ok (.iload_n 1, 1) := by decide +kernel
theorem dX6_write_113 : decode cX6_write 113 = .ok (.iaload, 1) := by decide +kernel
theorem dX6_write_114 : decode cX6_write 114 = .ok (.iadd, 1) := by decide +kernel
theorem dX6_write_115 : decode cX6_write 115 = .ok (.lload_n 3, 1) := by decide +kernel
theorem dX6_write_116 : decode cX6_write 116 = .ok (.lastore, 1) := by decide +kernel
theorem dX6_write_117 : decode cX6_write 117 = .ok (.aload_n 0, 1) := by decide +kernel
theorem dX6_write_118 : decode cX6_write 118 = .ok (.iload_n 1, 1) := by decide +kernel
theorem dX6_write_119 : decode cX6_write 119 = .ok (.iconst 3, 1) := by decide +kernel
theorem dX6_write_120 : decode cX6_write 120 = .ok (.iload_n 2, 1) := by decide +kernel
theorem dX6_write_121 : decode cX6_write 121 = .ok (.iconst 0, 1) := by decide +kernel
theorem dX6_write_122 : decode cX6_write 122 = .ok (.iload 5, 2) := by decide +kernel
theorem dX6_write_124 : decode cX6_write 124 = .ok (.iconst 0, 1) := by decide +kernel
theorem dX6_write_125 : decode cX6_write 125 = .ok (.invokevirtual 188, 3) := by decide +kernel
theorem dX6_write_128 : decode cX6_write 128 = .ok (.ireturn, 1) := by decide +kernel
theorem dX6_send_0 : decode cX6_send 0 = .ok (.aload_n 0, 1) := by decide +kernel
theorem dX6_send_1 : decode cX6_send 1 = .ok (.iconst 0, 1) := by decide +kernel
theorem dX6_send_2 : decode cX6_send 2 = .ok (.putfield 106, 3) := by decide +kernel
theorem dX6_send_5 : decode cX6_send 5 = .ok (.aload_n 0, 1) := by decide +kernel
theorem dX6_send_6 : decode cX6_send 6 = .ok (.iload_n 1, 1) := by decide +kernel
theorem dX6_send_7 : decode cX6_send 7 = .ok (.invokevirtual 179, 3) := by decide +kernel
theorem dX6_send_10 : decode cX6_send 10 = .ok (.ifCond .eq 16, 3) := by decide +kernel
theorem dX6_send_13 : decode cX6_send 13 = .ok (.aload_n 0, 1) := by decide +kernel
theorem dX6_send_14 : decode cX6_send 14 = .ok (.iload_n 2, 1) := by decide +kernel
theorem dX6_send_15 : decode cX6_send 15 = .ok (.invokevirtual 179, 3) := by decide +kernel
theorem dX6_send_18 : decode cX6_send 18 = .ok (.ifCond .eq 8, 3) := by decide +kernel
theorem dX6_send_21 : decode cX6_send 21 = .ok (.iload_n 1, 1) := by decide +kernel
theorem dX6_send_22 : decode cX6_send 22 = .ok (.iload_n 2, 1) := by decide +kernel
theorem dX6_send_23 : decode cX6_send 23 = .ok (.if_icmp .ne 5, 3) := by decide +kernel
theorem dX6_send_26 : decode cX6_send 26 = .ok (.iconst (-1), 1) := by decide +kernel
theorem dX6_send_27 : decode cX6_send 27 = .ok (.ireturn, 1) := by decide +kernel
theorem dX6_send_28 : decode cX6_send 28 = .ok (.iconst 0, 1) := by decide +kernel
theorem dX6_send_29 : decode cX6_send 29 = .ok (.istore_n 3, 1) := by decide +kernel
theorem dX6_send_30 : decode cX6_send 30 = .ok (.iconst 0, 1) := by decide +kernel
theorem dX6_send_31 : decode cX6_send 31 = .ok (.istore 4, 2) := by decide +kernel
theorem dX6_send_33 : decode cX6_send 33 = .ok (.iload 4, 2) := by decide +kernel
theorem dX6_send_35 : decode cX6_send 35 = .ok (.aload_n 0, 1) := by decide +kernel
theorem dX6_send_36 : decode cX6_send 36 = .ok (.getfield 7, 3) := by decide +kernel
theorem dX6_send_39 : decode cX6_send 39 = .ok (.if_icmp .ge 73, 3) := by decide +kernel
theorem dX6_send_42 : decode cX6_send 42 = .ok (.aload_n 0, 1) := by decide +kernel
theorem dX6_send_43 : decode cX6_send 43 = .ok (.getfield 24, 3) := by decide +kernel
theorem dX6_send_46 : decode cX6_send 46 = .ok (.iconst 4, 1) := by decide +kernel
theorem dX6_send_47 : decode cX6_send 47 = .ok (.iload_n 1, 1) := by decide +kernel
theorem dX6_send_48 : decode cX6_send 48 = .ok (.imul, 1) := by decide +kernel
theorem dX6_send_49 : decode cX6_send 49 = .ok (.iload 4, 2) := by decide +kernel
theorem dX6_send_51 : decode cX6_send 51 = .ok (.iadd, 1) := by decide +kernel
theorem dX6_send_52 : decode cX6_send 52 = .ok (.iaload, 1) := by decide +kernel
theorem dX6_send_53 : decode cX6_send 53 = .ok (.aload_n 0, 1) := by decide +kernel
theorem dX6_send_54 : decode cX6_send 54 = .ok (.getfield 24, 3) := by decide +kernel
theorem dX6_send_57 : decode cX6_send 57 = .ok (.iconst 4, 1) := by decide +kernel
theorem dX6_send_58 : decode cX6_send 58 = .ok (.iload_n 2, 1) := by decide +kernel
theorem dX6_send_59 : decode cX6_send 59 = .ok (.imul, 1) := by decide +kernel
theorem dX6_send_60 : decode cX6_send 60 = .ok (.iload 4, 2) := by decide +kernel
theorem dX6_send_62 : decode cX6_send 62 = .ok (.iadd, 1) := by decide +kernel
theorem dX6_send_63 : decode cX6_send 63 = .ok (.iaload, 1) := by decide +kernel
theorem dX6_send_64 : decode cX6_send 64 = .ok (.isub, 1) := by decide +kernel
theorem dX6_send_65 : decode cX6_send 65 = .ok (.istore 5, 2) := by decide +kernel
theorem dX6_send_67 : decode cX6_send 67 = .ok (.iload_n 3, 1) := by decide +kernel
theorem dX6_send_68 : decode cX6_send 68 = .ok (.iload 5, 2) := by decide +kernel
theorem dX6_send_70 : decode cX6_send 70 = .ok (.ifCond .le 8, 3) := by decide +kernel
theorem dX6_send_73 : decode cX6_send 73 = .ok (.iload 5, 2) := by decide +kernel
theorem dX6_send_75 : decode cX6_send 75 = .ok (.goto 4, 3) := by decide +kernel
theorem dX6_send_78 : decode cX6_send 78 = .ok (.iconst 0, 1) := by decide +kernel
theorem dX6_send_79 : decode cX6_send 79 = .ok (.iadd, 1) := by decide +kernel
theorem dX6_send_80 : decode cX6_send 80 = .ok (.istore_n 3, 1) := by decide +kernel
theorem dX6_send_81 : decode cX6_send 81 = .ok (.aload_n 0, 1) := by decide +kernel
theorem dX6_send_82 : decode cX6_send 82 = .ok (.getfield 24, 3) := by decide +kernel
theorem dX6_send_85 : decode cX6_send 85 = .ok (.iconst 4, 1) := by decide +kernel
theorem dX6_send_86 : decode cX6_send 86 = .ok (.iload_n 2, 1) := by decide +kernel
theorem dX6_send_87 : decode cX6_send 87 = .ok (.imul, 1) := by decide +kernel
theorem dX6_send_88 : decode cX6_send 88 = .ok (.iload 4, 2) := by decide +kernel
theorem dX6_send_90 : decode cX6_send 90 = .ok (.iadd, 1) := by decide +kernel
theorem dX6_send_91 : decode cX6_send 91 = .ok (.dup2, 1) := by decide +kernel
theorem dX6_send_92 : decode cX6_send 92 = .ok (.iaload, 1) := by decide +kernel
theorem dX6_send_93 : decode cX6_send 93 = .ok (.iload 5, 2) := by decide +kernel
theorem dX6_send_95 : decode cX6_send 95 = .ok (.ifCond .le 8, 3) := by decide +kernel
theorem dX6_send_98 : decode cX6_send 98 = .ok (.iload 5, 2) := by decide +kernel
theorem dX6_send_100 : decode cX6_send 100 = .ok (.goto 4, 3) := by decide +kernel
theorem dX6_send_103 : decode cX6_send 103 = .ok (.iconst 0, 1) := by decide +kernel
theorem dX6_send_104 : decode cX6_send 104 = .ok (.iadd, 1) := by decide +kernel
theorem dX6_send_105 : decode cX6_send 105 = .ok (.iastore, 1) := by decide +kernel
theorem dX6_send_106 : decode cX6_send 106 = .ok (.iinc 4 1, 3) := by decide +kernel
theorem dX6_send_109 : decode cX6_send 109 = .ok (.goto (-76), 3) := by decide +kernel
theorem dX6_send_112 : decode cX6_send 112 = .ok (.iload_n 3, 1) := by decide +kernel
theorem dX6_send_113 : decode cX6_send 113 = .ok (.ireturn, 1) := by decide +kernel
theorem dX6_sendSome_0 : decode cX6_sendSome 0 = .ok (.aload_n 0, 1) := by decide +kernel
theorem dX6_sendSome_1 : decode cX6_sendSome 1 = .ok (.iconst 0, 1) := by decide +kernel
theorem dX6_sendSome_2 : decode cX6_sendSome 2 = .ok (.putfield 106, 3) := by decide +kernel
theorem dX6_sendSome_5 : decode cX6_sendSome 5 = .ok (.aload_n 0, 1) := by decide +kernel
theorem dX6_sendSome_6 : decode cX6_sendSome 6 = .ok (.iload_n 1, 1) := by decide +kernel
theorem dX6_sendSome_7 : decode cX6_sendSome 7 = .ok (.invokevirtual 179, 3) := by decide +kernel
theorem dX6_sendSome_10 : decode cX6_sendSome 10 = .ok (.ifCond .eq 26, 3) := by decide +kernel
theorem dX6_sendSome_13 : decode cX6_sendSome 13 = .ok (.aload_n 0, 1) := by decide +kernel
theorem dX6_sendSome_14 : decode cX6_sendSome 14 = .ok (.iload_n 2, 1) := by decide +kernel
theorem dX6_sendSome_15 : decode cX6_sendSome 15 = .ok (.invokevirtual 179, 3) := by decide +kernel
theorem dX6_sendSome_18 : decode cX6_sendSome 18 = .ok (.ifCond .eq 18, 3) := by decide +kernel
theorem dX6_sendSome_21 : decode cX6_sendSome 21 = .ok (.iload_n 1, 1) := by decide +kernel
theorem dX6_sendSome_22 : decode cX6_sendSome 22 = .ok (.iload_n 2, 1) := by decide +kernel
theorem dX6_sendSome_23 : decode cX6_sendSome 23 = .ok (.if_icmp .eq 13, 3) := by decide +kernel
theorem dX6_sendSome_26 : decode cX6_sendSome 26 = .ok (.iload_n 3, 1) := by decide +kernel
theorem dX6_sendSome_27 : decode cX6_sendSome 27 = .ok (.iconst 1, 1) := by decide +kernel
theorem dX6_sendSome_28 : decode cX6_sendSome 28 = .ok (.bipush 20, 2) := by decide +kernel
theorem dX6_sendSome_30 : decode cX6_sendSome 30 = .ok (.invokestatic 115, 3) := by decide +kernel
theorem dX6_sendSome_33 : decode cX6_sendSome 33 = .ok (.ifCond .ne 5, 3) := by decide +kernel
theorem dX6_sendSome_36 : decode cX6_sendSome 36 = .ok (.iconst (-1), 1) := by decide +kernel
theorem dX6_sendSome_37 : decode cX6_sendSome 37 = .ok (.ireturn, 1) := by decide +kernel
theorem dX6_sendSome_38 : decode cX6_sendSome 38 = .ok (.iconst 0, 1) := by decide +kernel
theorem dX6_sendSome_39 : decode cX6_sendSome 39 = .ok (.istore 4, 2) := by decide +kernel
theorem dX6_sendSome_41 : decode cX6_sendSome 41 = .ok (.iconst 0, 1) := by decide +kernel
theorem dX6_sendSome_42 : decode cX6_sendSome 42 = .ok (.istore 5, 2) := by decide +kernel
theorem dX6_sendSome_44 : decode cX6_sendSome 44 = .ok (.iload 5, 2) := by decide +kernel
theorem dX6_sendSome_46 : decode cX6_sendSome 46 = .ok (.iconst 4, 1) := by decide +kernel
theorem dX6_sendSome_47 : decode cX6_sendSome 47 = .ok (.if_icmp .ge 45, 3) := by decide +kernel
theorem dX6_sendSome_50 : decode cX6_sendSome 50 = .ok (.aload_n 0, 1) := by decide +kernel
theorem dX6_sendSome_51 : decode cX6_sendSome 51 = .ok (.getfield 36, 3) := by decide +kernel
theorem dX6_sendSome_54 : decode cX6_sendSome 54 = .ok (.iload 5, 2) := by decide +kernel
theorem dX6_sendSome_56 : decode cX6_sendSome 56 = .ok (.aload_n 0, 1) := by decide +kernel
theorem dX6_sendSome_57 : decode cX6_sendSome 57 = .ok (.getfield 24, 3) := by decide +kernel
theorem dX6_sendSome_60 : decode cX6_sendSome 60 = .ok (.iconst 4, 1) := by decide +kernel
theorem dX6_sendSome_61 : decode cX6_sendSome 61 = .ok (.iload_n 2, 1) := by decide +kernel
theorem dX6_sendSome_62 : decode cX6_sendSome 62 = .ok (.imul, 1) := by decide +kernel
theorem dX6_sendSome_63 : decode cX6_sendSome 63 = .ok (.iload 5, 2) := by decide +kernel
theorem dX6_sendSome_65 : decode cX6_sendSome 65 = .ok (.iadd, 1) := by decide +kernel
theorem dX6_sendSome_66 : decode cX6_sendSome 66 = .ok (.iaload, 1) := by decide +kernel
theorem dX6_sendSome_67 : decode cX6_sendSome 67 = .ok (.iastore, 1) := by decide +kernel
theorem dX6_sendSome_68 : decode cX6_sendSome 68 = .ok (.aload_n 0, 1) := by decide +kernel
theorem dX6_sendSome_69 : decode cX6_sendSome 69 = .ok (.getfield 39, 3) := by decide +kernel
theorem dX6_sendSome_72 : decode cX6_sendSome 72 = .ok (.iload 5, 2) := by decide +kernel
theorem dX6_sendSome_74 : decode cX6_sendSome 74 = .ok (.aload_n 0, 1) := by decide +kernel
theorem dX6_sendSome_75 : decode cX6_sendSome 75 = .ok (.getfield 24, 3) := by decide +kernel
theorem dX6_sendSome_78 : decode cX6_sendSome 78 = .ok (.iconst 4, 1) := by decide +kernel
theorem dX6_sendSome_79 : decode cX6_sendSome 79 = .ok (.iload_n 1, 1) := by decide +kernel
theorem dX6_sendSome_80 : decode cX6_sendSome 80 = .ok (.imul, 1) := by decide +kernel
theorem dX6_sendSome_81 : decode cX6_sendSome 81 = .ok (.iload 5, 2) := by decide +kernel
theorem dX6_sendSome_83 : decode cX6_sendSome 83 = .ok (.iadd, 1) := by decide +kernel
theorem dX6_sendSome_84 : decode cX6_sendSome 84 = .ok (.iaload, 1) := by decide +kernel
theorem dX6_sendSome_85 : decode cX6_sendSome 85 = .ok (.iastore, 1) := by decide +kernel
theorem dX6_sendSome_86 : decode cX6_sendSome 86 = .ok (.iinc 5 1, 3) := by decide +kernel
theorem dX6_sendSome_89 : decode cX6_sendSome 89 = .ok (.goto (-45), 3) := by decide +kernel
theorem dX6_sendSome_92 : decode cX6_sendSome 92 = .ok (.aload_n 0, 1) := by decide +kernel
theorem dX6_sendSome_93 : decode cX6_sendSome 93 = .ok (.aload_n 0, 1) := by decide +kernel
theorem dX6_sendSome_94 : decode cX6_sendSome 94 = .ok (.getfield 39, 3) := by decide +kernel
theorem dX6_sendSome_97 : decode cX6_sendSome 97 = .ok (.invokevirtual 126, 3) := by decide +kernel
theorem dX6_sendSome_100 : decode cX6_sendSome 100 = .ok (.istore 5, 2) := by decide +kernel
theorem dX6_sendSome_102 : decode cX6_sendSome 102 = .ok (.iload 5, 2) := by decide +kernel
theorem dX6_sendSome_104 : decode cX6_sendSome 104 = .ok (.bipush (-9), 2) := by decide +kernel
theorem dX6_sendSome_106 : decode cX6_sendSome 106 = .ok (.if_icmp .eq 51, 3) := by decide +kernel
theorem dX6_sendSome_109 : decode cX6_sendSome 109 = .ok (.iload 4, 2) := by decide +kernel
theorem dX6_sendSome_111 : decode cX6_sendSome 111 = .ok (.iload_n 3, 1) := by decide +kernel
theorem dX6_sendSome_112 : decode cX6_sendSome 112 = .ok (.if_icmp .ge 45, 3) := by decide +kernel
theorem dX6_sendSome_115 : decode cX6_sendSome 115 = .ok (.aload_n 0, 1) := by decide +kernel
theorem dX6_sendSome_116 : decode cX6_sendSome 116 = .ok (.getfield 24, 3) := by decide +kernel
theorem dX6_sendSome_119 : decode cX6_sendSome 119 = .ok (.iconst 4, 1) := by decide +kernel
theorem dX6_sendSome_120 : decode cX6_sendSome 120 = .ok (.iload_n 2, 1) := by decide +kernel
theorem dX6_sendSome_121 : decode cX6_sendSome 121 = .ok (.imul, 1) := by decide +kernel
theorem dX6_sendSome_122 : decode cX6_sendSome 122 = .ok (.iload 5, 2) := by decide +kernel
theorem dX6_sendSome_124 : decode cX6_sendSome 124 = .ok (.iadd, 1) := by decide +kernel
theorem dX6_sendSome_125 : decode cX6_sendSome 125 = .ok (.dup2, 1) := by decide +kernel
theorem dX6_sendSome_126 : decode cX6_sendSome 126 = .ok (.iaload, 1) := by decide +kernel
theorem dX6_sendSome_127 : decode cX6_sendSome 127 = .ok (.iconst 1, 1) := by decide +kernel
theorem dX6_sendSome_128 : decode cX6_sendSome 128 = .ok (.iadd, 1) := by decide +kernel
theorem dX6_sendSome_129 : decode cX6_sendSome 129 = .ok (.iastore, 1) := by decide +kernel
theorem dX6_sendSome_130 : decode cX6_sendSome 130 = .ok (.aload_n 0, 1) := by decide +kernel
theorem dX6_sendSome_131 : decode cX6_sendSome 131 = .ok (.getfield 36, 3) := by decide +kernel
theorem dX6_sendSome_134 : decode cX6_sendSome 134 = .ok (.iload 5, 2) := by decide +kernel
theorem dX6_sendSome_136 : decode cX6_sendSome 136 = .ok (.dup2, 1) := by decide +kernel
theorem dX6_sendSome_137 : decode cX6_sendSome 137 = .ok (.iaload, 1) := by decide +kernel
theorem dX6_sendSome_138 : decode cX6_sendSome 138 = .ok (.iconst 1, 1) := by decide +kernel
theorem dX6_sendSome_139 : decode cX6_sendSome 139 = .ok (.iadd, 1) := by decide +kernel
theorem dX6_sendSome_140 : decode cX6_sendSome 140 = .ok (.iastore, 1) := by decide +kernel
theorem dX6_sendSome_141 : decode cX6_sendSome 141 = .ok (.iinc 4 1, 3) := by decide +kernel
theorem dX6_sendSome_144 : decode cX6_sendSome 144 = .ok (.aload_n 0, 1) := by decide +kernel
theorem dX6_sendSome_145 : decode cX6_sendSome 145 = .ok (.aload_n 0, 1) := by decide +kernel
theorem dX6_sendSome_146 : decode cX6_sendSome 146 = .ok (.getfield 39, 3) := by decide +kernel
theorem dX6_sendSome_149 : decode cX6_sendSome 149 = .ok (.invokevirtual 126, 3) := by decide +kernel
theorem dX6_sendSome_152 : decode cX6_sendSome 152 = .ok (.istore 5, 2) := by decide +kernel
theorem dX6_sendSome_154 : decode cX6_sendSome 154 = .ok (.goto (-52), 3) := by decide +kernel
theorem dX6_sendSome_157 : decode cX6_sendSome 157 = .ok (.iload 4, 2) := by decide +kernel
theorem dX6_sendSome_159 : decode cX6_sendSome 159 = .ok (.ireturn, 1) := by decide +kernel
theorem dX6_change_0 : decode cX6_change 0 = .ok (.aload_n 0, 1) := by decide +kernel
theorem dX6_change_1 : decode cX6_change 1 = .ok (.iconst 0, 1) := by decide +kernel
theorem dX6_change_2 : decode cX6_change 2 = .ok (.putfield 106, 3) := by decide +kernel
theorem dX6_change_5 : decode cX6_change 5 = .ok (.aload_n 0, 1) := by decide +kernel
theorem dX6_change_6 : decode cX6_change 6 = .ok (.iload_n 1, 1) := by decide +kernel
theorem dX6_change_7 : decode cX6_change 7 = .ok (.invokevirtual 179, 3) := by decide +kernel
theorem dX6_change_10 : decode cX6_change 10 = .ok (.ifCond .eq 28, 3) := by decide +kernel
theorem dX6_change_13 : decode cX6_change 13 = .ok (.iload_n 2, 1) := by decide +kernel
theorem dX6_change_14 : decode cX6_change 14 = .ok (.iconst 0, 1) := by decide +kernel
theorem dX6_change_15 : decode cX6_change 15 = .ok (.aload_n 0, 1) := by decide +kernel
theorem dX6_change_16 : decode cX6_change 16 = .ok (.getfield 13, 3) := by decide +kernel
theorem dX6_change_19 : decode cX6_change 19 = .ok (.iload_n 1, 1) := by decide +kernel
theorem dX6_change_20 : decode cX6_change 20 = .ok (.iaload, 1) := by decide +kernel
theorem dX6_change_21 : decode cX6_change 21 = .ok (.iconst 1, 1) := by decide +kernel
theorem dX6_change_22 : decode cX6_change 22 = .ok (.isub, 1) := by decide +kernel
theorem dX6_change_23 : decode cX6_change 23 = .ok (.invokestatic 115, 3) := by decide +kernel
theorem dX6_change_26 : decode cX6_change 26 = .ok (.ifCond .eq 12, 3) := by decide +kernel
theorem dX6_change_29 : decode cX6_change 29 = .ok (.iload_n 3, 1) := by decide +kernel
theorem dX6_change_30 : decode cX6_change 30 = .ok (.iconst 0, 1) := by decide +kernel
theorem dX6_change_31 : decode cX6_change 31 = .ok (.iconst 5, 1) := by decide +kernel
theorem dX6_change_32 : decode cX6_change 32 = .ok (.invokestatic 115, 3) := by decide +kernel
theorem dX6_change_35 : decode cX6_change 35 = .ok (.ifCond .ne 5, 3) := by decide +kernel
theorem dX6_change_38 : decode cX6_change 38 = .ok (.iconst (-1), 1) := by decide +kernel
theorem dX6_change_39 : decode cX6_change 39 = .ok (.ireturn, 1) := by decide +kernel
theorem dX6_change_40 : decode cX6_change 40 = .ok (.iload_n 1, 1) := by decide +kernel
theorem dX6_change_41 : decode cX6_change 41 = .ok (.iload_n 2, 1) := by decide +kernel
theorem dX6_change_42 : decode cX6_change 42 = .ok (.invokestatic 119, 3) := by decide +kernel
theorem dX6_change_45 : decode cX6_change 45 = .ok (.istore 4, 2) := by decide +kernel
theorem dX6_change_47 : decode cX6_change 47 = .ok (.iload_n 3, 1) := by decide +kernel
theorem dX6_change_48 : decode cX6_change 48 = .ok (.iconst 3, 1) := by decide +kernel
theorem dX6_change_49 : decode cX6_change 49 = .ok (.if_icmp .ne 47, 3) := by decide +kernel
theorem dX6_change_52 : decode cX6_change 52 = .ok (.aload_n 0, 1) := by decide +kernel
theorem dX6_change_53 : decode cX6_change 53 = .ok (.getfield 17, 3) := by decide +kernel
theorem dX6_change_56 : decode cX6_change 56 = .ok (.iload 4, 2) := by decide +kernel
theorem dX6_change_58 : decode cX6_change 58 = .ok (.bipush 6, 2) := by decide +kernel
theorem dX6_change_60 : decode cX6_change 60 = .ok (.iadd, 1) := by decide +kernel
theorem dX6_change_61 : decode cX6_change 61 = .ok (.iaload, 1) := by decide +kernel
theorem dX6_change_62 : decode cX6_change 62 = .ok (.aload_n 0, 1) := by decide +kernel
theorem dX6_change_63 : decode cX6_change 63 = .ok (.getfield 17, 3) := by decide +kernel
theorem dX6_change_66 : decode cX6_change 66 = .ok (.iload 4, 2) := by decide +kernel
theorem dX6_change_68 : decode cX6_change 68 = .ok (.bipush 7, 2) := by decide +kernel
theorem dX6_change_70 : decode cX6_change 70 = .ok (.iadd, 1) := by decide +kernel
theorem dX6_change_71 : decode cX6_change 71 = .ok (.iaload, 1) := by decide +kernel
theorem dX6_change_72 : decode cX6_change 72 = .ok (.iadd, 1) := by decide +kernel
theorem dX6_change_73 : decode cX6_change 73 = .ok (.aload_n 0, 1) := by decide +kernel
theorem dX6_change_74 : decode cX6_change 74 = .ok (.getfield 17, 3) := by decide +kernel
theorem dX6_change_77 : decode cX6_change 77 = .ok (.iload 4, 2) := by decide +kernel
theorem dX6_change_79 : decode cX6_change 79 = .ok (.bipush 8, 2) := by decide +kernel
theorem dX6_change_81 : decode cX6_change 81 = .ok (.iadd, 1) := by decide +kernel
theorem dX6_change_82 : decode cX6_change 82 = .ok (.iaload, 1) := by decide +kernel
theorem dX6_change_83 : decode cX6_change 83 = .ok (.iadd, 1) := by decide +kernel
theorem dX6_change_84 : decode cX6_change 84 = .ok (.aload_n 0, 1) := by decide +kernel
theorem dX6_change_85 : decode cX6_change 85 = .ok (.getfield 17, 3) := by decide +kernel
theorem dX6_change_88 : decode cX6_change 88 = .ok (.iload 4, 2) := by decide +kernel
theorem dX6_change_90 : decode cX6_change 90 = .ok (.bipush 9, 2) := by decide +kernel
theorem dX6_change_92 : decode cX6_change 92 = .ok (.iadd, 1) := by decide +kernel
theorem dX6_change_93 : decode cX6_change 93 = .ok (.iaload, 1) := by decide +kernel
theorem dX6_change_94 : decode cX6_change 94 = .ok (.iadd, 1) := by decide +kernel
theorem dX6_change_95 : decode cX6_change 95 = .ok (.ireturn, 1) := by decide +kernel
theorem dX6_change_96 : decode cX6_change 96 = .ok (.iload_n 3, 1) := by decide +kernel
theorem dX6_change_97 : decode cX6_change 97 = .ok (.iconst 5, 1) := by decide +kernel
theorem dX6_change_98 : decode cX6_change 98 = .ok (.if_icmp .ne 23, 3) := by decide +kernel
theorem dX6_change_101 : decode cX6_change 101 = .ok (.aload_n 0, 1) := by decide +kernel
theorem dX6_change_102 : decode cX6_change 102 = .ok (.invokevirtual 153, 3) := by decide +kernel
theorem dX6_change_105 : decode cX6_change 105 = .ok (.iload_n 2, 1) := by decide +kernel
theorem dX6_change_106 : decode cX6_change 106 = .ok (.aload_n 0, 1) := by decide +kernel
theorem dX6_change_107 : decode cX6_change 107 = .ok (.getfield 33, 3) := by decide +kernel
theorem dX6_change_110 : decode cX6_change 110 = .ok (.iload_n 1, 1) := by decide +kernel
theorem dX6_change_111 : decode cX6_change 111 = .ok (.iaload, 1) := by decide +kernel
theorem dX6_change_112 : decode cX6_change 112 = .ok (.if_icmp .lt 7, 3) := by decide +kernel
theorem dX6_change_115 : decode cX6_change 115 = .ok (.iconst 1, 1) := by decide +kernel
theorem dX6_change_116 : decode cX6_change 116 = .ok (.goto 4, 3) := by decide +kernel
theorem dX6_change_119 : decode cX6_change 119 = .ok (.iconst 0, 1) := by decide +kernel
theorem dX6_change_120 : decode cX6_change 120 = .ok (.ireturn, 1) := by decide +kernel
theorem dX6_change_121 : decode cX6_change 121 = .ok (.iload_n 3, 1) := by decide +kernel
theorem dX6_change_122 : decode cX6_change 122 = .ok (.iconst 2, 1) := by decide +kernel
theorem dX6_change_123 : decode cX6_change 123 = .ok (.if_icmp .ge 15, 3) := by decide +kernel
theorem dX6_change_126 : decode cX6_change 126 = .ok (.aload_n 0, 1) := by decide +kernel
theorem dX6_change_127 : decode cX6_change 127 = .ok (.getfield 17, 3) := by decide +kernel
theorem dX6_change_130 : decode cX6_change 130 = .ok (.iload 4, 2) := by decide +kernel
theorem dX6_change_132 : decode cX6_change 132 = .ok (.iload_n 3, 1) := by decide +kernel
theorem dX6_change_133 : decode cX6_change 133 = .ok (.iadd, 1) := by decide +kernel
theorem dX6_change_134 : decode cX6_change 134 = .ok (.iaload, 1) := by decide +kernel
theorem dX6_change_135 : decode cX6_change 135 = .ok (.goto 29, 3) := by decide +kernel
theorem dX6_change_138 : decode cX6_change 138 = .ok (.iload_n 3, 1) := by decide +kernel
theorem dX6_change_139 : decode cX6_change 139 = .ok (.iconst 2, 1) := by decide +kernel
theorem dX6_change_140 : decode cX6_change 140 = .ok (.if_icmp .ne 15, 3) := by decide +kernel
theorem dX6_change_143 : decode cX6_change 143 = .ok (.aload_n 0, 1) := by decide +kernel
theorem dX6_change_144 : decode cX6_change 144 = .ok (.getfield 17, 3) := by decide +kernel
theorem dX6_change_147 : decode cX6_change 147 = .ok (.iload 4, 2) := by decide +kernel
theorem dX6_change_149 : decode cX6_change 149 = .ok (.iconst 4, 1) := by decide +kernel
theorem dX6_change_150 : decode cX6_change 150 = .ok (.iadd, 1) := by decide +kernel
theorem dX6_change_151 : decode cX6_change 151 = .ok (.iaload, 1) := by decide +kernel
theorem dX6_change_152 : decode cX6_change 152 = .ok (.goto 12, 3) := by decide +kernel
theorem dX6_change_155 : decode cX6_change 155 = .ok (.aload_n 0, 1) := by decide +kernel
theorem dX6_change_156 : decode cX6_change 156 = .ok (.getfield 17, 3) := by decide +kernel
theorem dX6_change_159 : decode cX6_change 159 = .ok (.iload 4, 2) := by decide +kernel
theorem dX6_change_161 : decode cX6_change 161 = .ok (.iconst 5, 1) := by decide +kernel
theorem dX6_change_162 : decode cX6_change 162 = .ok (.iadd, 1) := by decide +kernel
theorem dX6_change_163 : decode cX6_change 163 = .ok (.iaload, 1) := by decide +kernel
theorem dX6_change_164 : decode cX6_change 164 = .ok (.ireturn, 1) := by decide +kernel
theorem dX6_thing_0 : decode cX6_thing 0 = .ok (.aload_n 0, 1) := by decide +kernel
theorem dX6_thing_1 : decode cX6_thing 1 = .ok (.iconst 0, 1) := by decide +kernel
theorem dX6_thing_2 : decode cX6_thing 2 = .ok (.putfield 106, 3) := by decide +kernel
theorem dX6_thing_5 : decode cX6_thing 5 = .ok (.aload_n 0, 1) := by decide +kernel
theorem dX6_thing_6 : decode cX6_thing 6 = .ok (.iload_n 1, 1) := by decide +kernel
theorem dX6_thing_7 : decode cX6_thing 7 = .ok (.invokevirtual 179, 3) := by decide +kernel
theorem dX6_thing_10 : decode cX6_thing 10 = .ok (.ifCond .eq 28, 3) := by decide +kernel
theorem dX6_thing_13 : decode cX6_thing 13 = .ok (.iload_n 2, 1) := by decide +kernel
theorem dX6_thing_14 : decode cX6_thing 14 = .ok (.invokestatic 182, 3) := by decide +kernel
theorem dX6_thing_17 : decode cX6_thing 17 = .ok (.ifCond .eq 21, 3) := by decide +kernel
theorem dX6_thing_20 : decode cX6_thing 20 = .ok (.aload_n 0, 1) := by decide +kernel
theorem dX6_thing_21 : decode cX6_thing 21 = .ok (.iload_n 3, 1) := by decide +kernel
theorem dX6_thing_22 : decode cX6_thing 22 = .ok (.invokevirtual 224, 3) := by decide +kernel
theorem dX6_thing_25 : decode cX6_thing 25 = .ok (.ifCond .eq 13, 3) := by decide +kernel
theorem dX6_thing_28 : decode cX6_thing 28 = .ok (.iload 4, 2) := by decide +kernel
theorem dX6_thing_30 : decode cX6_thing 30 = .ok (.iconst 0, 1) := by decide +kernel
theorem dX6_thing_31 : decode cX6_thing 31 = .ok (.iconst 3, 1) := by decide +kernel
theorem dX6_thing_32 : decode cX6_thing 32 = .ok (.invokestatic 115, 3) := by decide +kernel
theorem dX6_thing_35 : decode cX6_thing 35 = .ok (.ifCond .ne 5, 3) := by decide +kernel
theorem dX6_thing_38 : decode cX6_thing 38 = .ok (.iconst (-1), 1) := by decide +kernel
theorem dX6_thing_39 : decode cX6_thing 39 = .ok (.ireturn, 1) := by decide +kernel
theorem dX6_thing_40 : decode cX6_thing 40 = .ok (.aload_n 0, 1) := by decide +kernel
theorem dX6_thing_41 : decode cX6_thing 41 = .ok (.iload_n 1, 1) := by decide +kernel
theorem dX6_thing_42 : decode cX6_thing 42 = .ok (.iload_n 3, 1) := by decide +kernel
theorem dX6_thing_43 : decode cX6_thing 43 = .ok (.invokevirtual 227, 3) := by decide +kernel
theorem dX6_thing_46 : decode cX6_thing 46 = .ok (.aload_n 0, 1) := by decide +kernel
theorem dX6_thing_47 : decode cX6_thing 47 = .ok (.getfield 46, 3) := by decide +kernel
theorem dX6_thing_50 : decode cX6_thing 50 = .ok (.iload_n 2, 1) := by decide +kernel
theorem dX6_thing_51 : decode cX6_thing 51 = .ok (.baload, 1) := by decide +kernel
theorem dX6_thing_52 : decode cX6_thing 52 = .ok (.ifCond .ne 16, 3) := by decide +kernel
theorem dX6_thing_55 : decode cX6_thing 55 = .ok (.iload 4, 2) := by decide +kernel
theorem dX6_thing_57 : decode cX6_thing 57 = .ok (.ifCond .ne 8, 3) := by decide +kernel
theorem dX6_thing_60 : decode cX6_thing 60 = .ok (.bipush (-9), 2) := by decide +kernel
