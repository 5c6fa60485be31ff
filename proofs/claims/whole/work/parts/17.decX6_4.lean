theorem dX6_cutsFile_30 : decode cX6_cutsFile 30 = .ok (.laload, 1) := by decide +kernel
theorem dX6_cutsFile_31 : decode cX6_cutsFile 31 = .ok (.aload_n 0, 1) := by decide +kernel
theorem dX6_cutsFile_32 : decode cX6_cutsFile 32 = .ok (.iload_n 3, 1) := by decide +kernel
theorem dX6_cutsFile_33 : decode cX6_cutsFile 33 = .ok (.invokevirtual 230, 3) := by decide +kernel
theorem dX6_cutsFile_36 : decode cX6_cutsFile 36 = .ok (.invokevirtual 207, 3) := by decide +kernel
theorem dX6_cutsFile_39 : decode cX6_cutsFile 39 = .ok (.iinc 2 1, 3) := by decide +kernel
theorem dX6_cutsFile_42 : decode cX6_cutsFile 42 = .ok (.goto (-40), 3) := by decide +kernel
theorem dX6_cutsFile_45 : decode cX6_cutsFile 45 = .ok (.return_, 1) := by decide +kernel
theorem dX6_pieces_0 : decode cX6_pieces 0 = .ok (.aload_n 0, 1) := by decide +kernel
theorem dX6_pieces_1 : decode cX6_pieces 1 = .ok (.iconst 0, 1) := by decide +kernel
theorem dX6_pieces_2 : decode cX6_pieces 2 = .ok (.putfield 106, 3) := by decide +kernel
theorem dX6_pieces_5 : decode cX6_pieces 5 = .ok (.aload_n 0, 1) := by decide +kernel
theorem dX6_pieces_6 : decode cX6_pieces 6 = .ok (.iload_n 1, 1) := by decide +kernel
theorem dX6_pieces_7 : decode cX6_pieces 7 = .ok (.invokevirtual 179, 3) := by decide +kernel
theorem dX6_pieces_10 : decode cX6_pieces 10 = .ok (.ifCond .eq 24, 3) := by decide +kernel
theorem dX6_pieces_13 : decode cX6_pieces 13 = .ok (.iload_n 2, 1) := by decide +kernel
theorem dX6_pieces_14 : decode cX6_pieces 14 = .ok (.iconst 0, 1) := by decide +kernel
theorem dX6_pieces_15 : decode cX6_pieces 15 = .ok (.iconst 2, 1) := by decide +kernel
theorem dX6_pieces_16 : decode cX6_pieces 16 = .ok (.invokestatic 115, 3) := by decide +kernel
theorem dX6_pieces_19 : decode cX6_pieces 19 = .ok (.ifCond .eq 15, 3) := by decide +kernel
theorem dX6_pieces_22 : decode cX6_pieces 22 = .ok (.iload_n 2, 1) := by decide +kernel
theorem dX6_pieces_23 : decode cX6_pieces 23 = .ok (.iconst 2, 1) := by decide +kernel
theorem dX6_pieces_24 : decode cX6_pieces 24 = .ok (.if_icmp .ne 12, 3) := by decide +kernel
theorem dX6_pieces_27 : decode cX6_pieces 27 = .ok (.iload_n 3, 1) := by decide +kernel
theorem dX6_pieces_28 : decode cX6_pieces 28 = .ok (.invokestatic 182, 3) := by decide +kernel
theorem dX6_pieces_31 : decode cX6_pieces 31 = .ok (.ifCond .ne 5, 3) := by decide +kernel
theorem dX6_pieces_34 : decode cX6_pieces 34 = .ok (.iconst (-1), 1) := by decide +kernel
theorem dX6_pieces_35 : decode cX6_pieces 35 = .ok (.ireturn, 1) := by decide +kernel
theorem dX6_pieces_36 : decode cX6_pieces 36 = .ok (.iload_n 2, 1) := by decide +kernel
theorem dX6_pieces_37 : decode cX6_pieces 37 = .ok (.iconst 2, 1) := by decide +kernel
theorem dX6_pieces_38 : decode cX6_pieces 38 = .ok (.if_icmp .ge 22, 3) := by decide +kernel
theorem dX6_pieces_41 : decode cX6_pieces 41 = .ok (.iload_n 2, 1) := by decide +kernel
theorem dX6_pieces_42 : decode cX6_pieces 42 = .ok (.ifCond .ne 12, 3) := by decide +kernel
theorem dX6_pieces_45 : decode cX6_pieces 45 = .ok (.aload_n 0, 1) := by decide +kernel
theorem dX6_pieces_46 : decode cX6_pieces 46 = .ok (.getfield 76, 3) := by decide +kernel
theorem dX6_pieces_49 : decode cX6_pieces 49 = .ok (.iload_n 1, 1) := by decide +kernel
theorem dX6_pieces_50 : decode cX6_pieces 50 = .ok (.iaload, 1) := by decide +kernel
theorem dX6_pieces_51 : decode cX6_pieces 51 = .ok (.goto 8, 3) := by decide +kernel
theorem dX6_pieces_54 : decode cX6_pieces 54 = .ok (.aload_n 0, 1) := by decide +kernel
theorem dX6_pieces_55 : decode cX6_pieces 55 = .ok (.iload_n 1, 1) := by decide +kernel
theorem dX6_pieces_56 : decode cX6_pieces 56 = .ok (.invokevirtual 214, 3) := by decide +kernel
theorem dX6_pieces_59 : decode cX6_pieces 59 = .ok (.ireturn, 1) := by decide +kernel
theorem dX6_pieces_60 : decode cX6_pieces 60 = .ok (.aload_n 0, 1) := by decide +kernel
theorem dX6_pieces_61 : decode cX6_pieces 61 = .ok (.iload_n 1, 1) := by decide +kernel
theorem dX6_pieces_62 : decode cX6_pieces 62 = .ok (.invokevirtual 176, 3) := by decide +kernel
theorem dX6_pieces_65 : decode cX6_pieces 65 = .ok (.aload_n 0, 1) := by decide +kernel
theorem dX6_pieces_66 : decode cX6_pieces 66 = .ok (.iload_n 3, 1) := by decide +kernel
theorem dX6_pieces_67 : decode cX6_pieces 67 = .ok (.invokevirtual 211, 3) := by decide +kernel
theorem dX6_pieces_70 : decode cX6_pieces 70 = .ok (.ifCond .ne 6, 3) := by decide +kernel
theorem dX6_pieces_73 : decode cX6_pieces 73 = .ok (.bipush (-2), 2) := by decide +kernel
theorem dX6_pieces_75 : decode cX6_pieces 75 = .ok (.ireturn, 1) := by decide +kernel
theorem dX6_pieces_76 : decode cX6_pieces 76 = .ok (.aload_n 0, 1) := by decide +kernel
theorem dX6_pieces_77 : decode cX6_pieces 77 = .ok (.iconst 0, 1) := by decide +kernel
theorem dX6_pieces_78 : decode cX6_pieces 78 = .ok (.putfield 200, 3) := by decide +kernel
theorem dX6_pieces_81 : decode cX6_pieces 81 = .ok (.aload_n 0, 1) := by decide +kernel
theorem dX6_pieces_82 : decode cX6_pieces 82 = .ok (.iload_n 3, 1) := by decide +kernel
theorem dX6_pieces_83 : decode cX6_pieces 83 = .ok (.invokevirtual 263, 3) := by decide +kernel
theorem dX6_pieces_86 : decode cX6_pieces 86 = .ok (.iconst 0, 1) := by decide +kernel
theorem dX6_pieces_87 : decode cX6_pieces 87 = .ok (.istore 4, 2) := by decide +kernel
theorem dX6_pieces_89 : decode cX6_pieces 89 = .ok (.iconst 0, 1) := by decide +kernel
theorem dX6_pieces_90 : decode cX6_pieces 90 = .ok (.istore 5, 2) := by decide +kernel
theorem dX6_pieces_92 : decode cX6_pieces 92 = .ok (.iload 5, 2) := by decide +kernel
theorem dX6_pieces_94 : decode cX6_pieces 94 = .ok (.aload_n 0, 1) := by decide +kernel
theorem dX6_pieces_95 : decode cX6_pieces 95 = .ok (.getfield 200, 3) := by decide +kernel
theorem dX6_pieces_98 : decode cX6_pieces 98 = .ok (.if_icmp .ge 43, 3) := by decide +kernel
theorem dX6_pieces_101 : decode cX6_pieces 101 = .ok (.iload 4, 2) := by decide +kernel
theorem dX6_pieces_103 : decode cX6_pieces 103 = .ok (.aload_n 0, 1) := by decide +kernel
theorem dX6_pieces_104 : decode cX6_pieces 104 = .ok (.iload_n 1, 1) := by decide +kernel
theorem dX6_pieces_105 : decode cX6_pieces 105 = .ok (.aload_n 0, 1) := by decide +kernel
theorem dX6_pieces_106 : decode cX6_pieces 106 = .ok (.getfield 85, 3) := by decide +kernel
theorem dX6_pieces_109 : decode cX6_pieces 109 = .ok (.iload 5, 2) := by decide +kernel
theorem dX6_pieces_111 : decode cX6_pieces 111 = .ok (.laload, 1) := by decide +kernel
theorem dX6_pieces_112 : decode cX6_pieces 112 = .ok (.aload_n 0, 1) := by decide +kernel
theorem dX6_pieces_113 : decode cX6_pieces 113 = .ok (.getfield 88, 3) := by decide +kernel
theorem dX6_pieces_116 : decode cX6_pieces 116 = .ok (.iload 5, 2) := by decide +kernel
theorem dX6_pieces_118 : decode cX6_pieces 118 = .ok (.iaload, 1) := by decide +kernel
theorem dX6_pieces_119 : decode cX6_pieces 119 = .ok (.invokevirtual 203, 3) := by decide +kernel
theorem dX6_pieces_122 : decode cX6_pieces 122 = .ok (.bipush (-9), 2) := by decide +kernel
theorem dX6_pieces_124 : decode cX6_pieces 124 = .ok (.if_icmp .ne 7, 3) := by decide +kernel
theorem dX6_pieces_127 : decode cX6_pieces 127 = .ok (.iconst 1, 1) := by decide +kernel
theorem dX6_pieces_128 : decode cX6_pieces 128 = .ok (.goto 4, 3) := by decide +kernel
theorem dX6_pieces_131 : decode cX6_pieces 131 = .ok (.iconst 0, 1) := by decide +kernel
theorem dX6_pieces_132 : decode cX6_pieces 132 = .ok (.iadd, 1) := by decide +kernel
theorem dX6_pieces_133 : decode cX6_pieces 133 = .ok (.istore 4, 2) := by decide +kernel
theorem dX6_pieces_135 : decode cX6_pieces 135 = .ok (.iinc 5 1, 3) := by decide +kernel
theorem dX6_pieces_138 : decode cX6_pieces 138 = .ok (.goto (-46), 3) := by decide +kernel
theorem dX6_pieces_141 : decode cX6_pieces 141 = .ok (.iload 4, 2) := by decide +kernel
theorem dX6_pieces_143 : decode cX6_pieces 143 = .ok (.ireturn, 1) := by decide +kernel
theorem dX6_isElsewhere_0 : decode cX6_isElsewhere 0 = .ok (.iconst 0, 1) := by decide +kernel
theorem dX6_isElsewhere_1 : decode cX6_isElsewhere 1 = .ok (.istore 5, 2) := by decide +kernel
theorem dX6_isElsewhere_3 : decode cX6_isElsewhere 3 = .ok (.iconst 0, 1) := by decide +kernel
theorem dX6_isElsewhere_4 : decode cX6_isElsewhere 4 = .ok (.istore 6, 2) := by decide +kernel
theorem dX6_isElsewhere_6 : decode cX6_isElsewhere 6 = .ok (.iload 6, 2) := by decide +kernel
theorem dX6_isElsewhere_8 : decode cX6_isElsewhere 8 = .ok (.aload_n 0, 1) := by decide +kernel
theorem dX6_isElsewhere_9 : decode cX6_isElsewhere 9 = .ok (.getfield 7, 3) := by decide +kernel
theorem dX6_isElsewhere_12 : decode cX6_isElsewhere 12 = .ok (.if_icmp .ge 39, 3) := by decide +kernel
theorem dX6_isElsewhere_15 : decode cX6_isElsewhere 15 = .ok (.iload 5, 2) := by decide +kernel
theorem dX6_isElsewhere_17 : decode cX6_isElsewhere 17 = .ok (.iload 6, 2) := by decide +kernel
theorem dX6_isElsewhere_19 : decode cX6_isElsewhere 19 = .ok (.iload_n 1, 1) := by decide +kernel
theorem dX6_isElsewhere_20 : decode cX6_isElsewhere 20 = .ok (.if_icmp .eq 21, 3) := by decide +kernel
theorem dX6_isElsewhere_23 : decode cX6_isElsewhere 23 = .ok (.aload_n 0, 1) := by decide +kernel
theorem dX6_isElsewhere_24 : decode cX6_isElsewhere 24 = .ok (.iload 6, 2) := by decide +kernel
theorem dX6_isElsewhere_26 : decode cX6_isElsewhere 26 = .ok (.lload_n 2, 1) := by decide +kernel
theorem dX6_isElsewhere_27 : decode cX6_isElsewhere 27 = .ok (.iload 4, 2) := by decide +kernel
theorem dX6_isElsewhere_29 : decode cX6_isElsewhere 29 = .ok (.invokevirtual 203, 3) := by decide +kernel
theorem dX6_isElsewhere_32 : decode cX6_isElsewhere 32 = .ok (.bipush (-9), 2) := by decide +kernel
theorem dX6_isElsewhere_34 : decode cX6_isElsewhere 34 = .ok (.if_icmp .eq 7, 3) := by decide +kernel
theorem dX6_isElsewhere_37 : decode cX6_isElsewhere 37 = .ok (.iconst 1, 1) := by decide +kernel
theorem dX6_isElsewhere_38 : decode cX6_isElsewhere 38 = .ok (.goto 4, 3) := by decide +kernel
theorem dX6_isElsewhere_41 : decode cX6_isElsewhere 41 = .ok (.iconst 0, 1) := by decide +kernel
theorem dX6_isElsewhere_42 : decode cX6_isElsewhere 42 = .ok (.ior, 1) := by decide +kernel
theorem dX6_isElsewhere_43 : decode cX6_isElsewhere 43 = .ok (.istore 5, 2) := by decide +kernel
theorem dX6_isElsewhere_45 : decode cX6_isElsewhere 45 = .ok (.iinc 6 1, 3) := by decide +kernel
theorem dX6_isElsewhere_48 : decode cX6_isElsewhere 48 = .ok (.goto (-42), 3) := by decide +kernel
theorem dX6_isElsewhere_51 : decode cX6_isElsewhere 51 = .ok (.iload 5, 2) := by decide +kernel
theorem dX6_isElsewhere_53 : decode cX6_isElsewhere 53 = .ok (.ireturn, 1) := by decide +kernel
theorem dX6_fetch_0 : decode cX6_fetch 0 = .ok (.aload_n 0, 1) := by decide +kernel
theorem dX6_fetch_1 : decode cX6_fetch 1 = .ok (.iconst 0, 1) := by decide +kernel
theorem dX6_fetch_2 : decode cX6_fetch 2 = .ok (.putfield 106, 3) := by decide +kernel
theorem dX6_fetch_5 : decode cX6_fetch 5 = .ok (.aload_n 0, 1) := by decide +kernel
theorem dX6_fetch_6 : decode cX6_fetch 6 = .ok (.iload_n 1, 1) := by decide +kernel
theorem dX6_fetch_7 : decode cX6_fetch 7 = .ok (.invokevirtual 179, 3) := by decide +kernel
theorem dX6_fetch_10 : decode cX6_fetch 10 = .ok (.ifCond .eq 10, 3) := by decide +kernel
theorem dX6_fetch_13 : decode cX6_fetch 13 = .ok (.iload_n 2, 1) := by decide +kernel
theorem dX6_fetch_14 : decode cX6_fetch 14 = .ok (.invokestatic 182, 3) := by decide +kernel
theorem dX6_fetch_17 : decode cX6_fetch 17 = .ok (.ifCond .ne 5, 3) := by decide +kernel
theorem dX6_fetch_20 : decode cX6_fetch 20 = .ok (.iconst (-1), 1) := by decide +kernel
theorem dX6_fetch_21 : decode cX6_fetch 21 = .ok (.ireturn, 1) := by decide +kernel
theorem dX6_fetch_22 : decode cX6_fetch 22 = .ok (.aload_n 0, 1) := by decide +kernel
theorem dX6_fetch_23 : decode cX6_fetch 23 = .ok (.iload_n 1, 1) := by decide +kernel
theorem dX6_fetch_24 : decode cX6_fetch 24 = .ok (.invokevirtual 176, 3) := by decide +kernel
theorem dX6_fetch_27 : decode cX6_fetch 27 = .ok (.aload_n 0, 1) := by decide +kernel
theorem dX6_fetch_28 : decode cX6_fetch 28 = .ok (.iload_n 2, 1) := by decide +kernel
theorem dX6_fetch_29 : decode cX6_fetch 29 = .ok (.invokevirtual 211, 3) := by decide +kernel
theorem dX6_fetch_32 : decode cX6_fetch 32 = .ok (.ifCond .ne 6, 3) := by decide +kernel
theorem dX6_fetch_35 : decode cX6_fetch 35 = .ok (.bipush (-2), 2) := by decide +kernel
theorem dX6_fetch_37 : decode cX6_fetch 37 = .ok (.ireturn, 1) := by decide +kernel
theorem dX6_fetch_38 : decode cX6_fetch 38 = .ok (.aload_n 0, 1) := by decide +kernel
theorem dX6_fetch_39 : decode cX6_fetch 39 = .ok (.iconst 0, 1) := by decide +kernel
theorem dX6_fetch_40 : decode cX6_fetch 40 = .ok (.putfield 200, 3) := by decide +kernel
theorem dX6_fetch_43 : decode cX6_fetch 43 = .ok (.aload_n 0, 1) := by decide +kernel
theorem dX6_fetch_44 : decode cX6_fetch 44 = .ok (.iload_n 2, 1) := by decide +kernel
theorem dX6_fetch_45 : decode cX6_fetch 45 = .ok (.invokevirtual 263, 3) := by decide +kernel
theorem dX6_fetch_48 : decode cX6_fetch 48 = .ok (.iconst 0, 1) := by decide +kernel
theorem dX6_fetch_49 : decode cX6_fetch 49 = .ok (.istore_n 3, 1) := by decide +kernel
theorem dX6_fetch_50 : decode cX6_fetch 50 = .ok (.iload_n 3, 1) := by decide +kernel
theorem dX6_fetch_51 : decode cX6_fetch 51 = .ok (.aload_n 0, 1) := by decide +kernel
theorem dX6_fetch_52 : decode cX6_fetch 52 = .ok (.getfield 200, 3) := by decide +kernel
theorem dX6_fetch_55 : decode cX6_fetch 55 = .ok (.if_icmp .ge 54, 3) := by decide +kernel
theorem dX6_fetch_58 : decode cX6_fetch 58 = .ok (.aload_n 0, 1) := by decide +kernel
theorem dX6_fetch_59 : decode cX6_fetch 59 = .ok (.iload_n 1, 1) := by decide +kernel
theorem dX6_fetch_60 : decode cX6_fetch 60 = .ok (.aload_n 0, 1) := by decide +kernel
theorem dX6_fetch_61 : decode cX6_fetch 61 = .ok (.getfield 85, 3) := by decide +kernel
theorem dX6_fetch_64 : decode cX6_fetch 64 = .ok (.iload_n 3, 1) := by decide +kernel
theorem dX6_fetch_65 : decode cX6_fetch 65 = .ok (.laload, 1) := by decide +kernel
theorem dX6_fetch_66 : decode cX6_fetch 66 = .ok (.aload_n 0, 1) := by decide +kernel
theorem dX6_fetch_67 : decode cX6_fetch 67 = .ok (.getfield 88, 3) := by decide +kernel
theorem dX6_fetch_70 : decode cX6_fetch 70 = .ok (.iload_n 3, 1) := by decide +kernel
theorem dX6_fetch_71 : decode cX6_fetch 71 = .ok (.iaload, 1) := by decide +kernel
theorem dX6_fetch_72 : decode cX6_fetch 72 = .ok (.invokevirtual 203, 3) := by decide +kernel
theorem dX6_fetch_75 : decode cX6_fetch 75 = .ok (.bipush (-9), 2) := by decide +kernel
theorem dX6_fetch_77 : decode cX6_fetch 77 = .ok (.if_icmp .ne 26, 3) := by decide +kernel
theorem dX6_fetch_80 : decode cX6_fetch 80 = .ok (.aload_n 0, 1) := by decide +kernel
theorem dX6_fetch_81 : decode cX6_fetch 81 = .ok (.iload_n 1, 1) := by decide +kernel
theorem dX6_fetch_82 : decode cX6_fetch 82 = .ok (.aload_n 0, 1) := by decide +kernel
theorem dX6_fetch_83 : decode cX6_fetch 83 = .ok (.getfield 85, 3) := by decide +kernel
theorem dX6_fetch_86 : decode cX6_fetch 86 = .ok (.iload_n 3, 1) := by decide +kernel
theorem dX6_fetch_87 : decode cX6_fetch 87 = .ok (.laload, 1) := by decide +kernel
theorem dX6_fetch_88 : decode cX6_fetch 88 = .ok (.aload_n 0, 1) := by decide +kernel
theorem dX6_fetch_89 : decode cX6_fetch 89 = .ok (.getfield 88, 3) := by decide +kernel
theorem dX6_fetch_92 : decode cX6_fetch 92 = .ok (.iload_n 3, 1) := by decide +kernel
theorem dX6_fetch_93 : decode cX6_fetch 93 = .ok (.iaload, 1) := by decide +kernel
theorem dX6_fetch_94 : decode cX6_fetch 94 = .ok (.invokevirtual 266, 3) := by decide +kernel
theorem dX6_fetch_97 : decode cX6_fetch 97 = .ok (.ifCond .ne 6, 3) := by decide +kernel
theorem dX6_fetch_100 : decode cX6_fetch 100 = .ok (.bipush (-2), 2) := by decide +kernel
theorem dX6_fetch_102 : decode cX6_fetch 102 = .ok (.ireturn, 1) := by decide +kernel
theorem dX6_fetch_103 : decode cX6_fetch 103 = .ok (.iinc 3 1, 3) := by decide +kernel
theorem dX6_fetch_106 : decode cX6_fetch 106 = .ok (.goto (-56), 3) := by decide +kernel
theorem dX6_fetch_109 : decode cX6_fetch 109 = .ok (.aload_n 0, 1) := by decide +kernel
theorem dX6_fetch_110 : decode cX6_fetch 110 = .ok (.iload_n 1, 1) := by decide +kernel
theorem dX6_fetch_111 : decode cX6_fetch 111 = .ok (.invokevirtual 218, 3) := by decide +kernel
theorem dX6_fetch_114 : decode cX6_fetch 114 = .ok (.istore_n 3, 1) := by decide +kernel
theorem dX6_fetch_115 : decode cX6_fetch 115 = .ok (.aload_n 0, 1) := by decide +kernel
theorem dX6_fetch_116 : decode cX6_fetch 116 = .ok (.iload_n 1, 1) := by decide +kernel
theorem dX6_fetch_117 : decode cX6_fetch 117 = .ok (.invokevirtual 214, 3) := by decide +kernel
theorem dX6_fetch_120 : decode cX6_fetch 120 = .ok (.iload_n 3, 1) := by decide +kernel
theorem dX6_fetch_121 : decode cX6_fetch 121 = .ok (.iadd, 1) := by decide +kernel
theorem dX6_fetch_122 : decode cX6_fetch 122 = .ok (.aload_n 0, 1) := by decide +kernel
theorem dX6_fetch_123 : decode cX6_fetch 123 = .ok (.getfield 73, 3) := by decide +kernel
theorem dX6_fetch_126 : decode cX6_fetch 126 = .ok (.iload_n 1, 1) := by decide +kernel
theorem dX6_fetch_127 : decode cX6_fetch 127 = .ok (.iaload, 1) := by decide +kernel
theorem dX6_fetch_128 : decode cX6_fetch 128 = .ok (.if_icmp .le 6, 3) := by decide +kernel
theorem dX6_fetch_131 : decode cX6_fetch 131 = .ok (.bipush (-2), 2) := by decide +kernel
theorem dX6_fetch_133 : decode cX6_fetch 133 = .ok (.ireturn, 1) := by decide +kernel
theorem dX6_fetch_134 : decode cX6_fetch 134 = .ok (.aload_n 0, 1) := by decide +kernel
theorem dX6_fetch_135 : decode cX6_fetch 135 = .ok (.iload_n 1, 1) := by decide +kernel
theorem dX6_fetch_136 : decode cX6_fetch 136 = .ok (.invokevirtual 221, 3) := by decide +kernel
theorem dX6_fetch_139 : decode cX6_fetch 139 = .ok (.iload_n 3, 1) := by decide +kernel
theorem dX6_fetch_140 : decode cX6_fetch 140 = .ok (.ireturn, 1) := by decide +kernel
theorem dX6_away_0 : decode cX6_away 0 = .ok (.aload_n 0, 1) := by decide +kernel
theorem dX6_away_1 : decode cX6_away 1 = .ok (.iconst 0, 1) := by decide +kernel
theorem dX6_away_2 : decode cX6_away 2 = .ok (.putfield 106, 3) := by decide +kernel
theorem dX6_away_5 : decode cX6_away 5 = .ok (.aload_n 0, 1) := by decide +kernel
theorem dX6_away_6 : decode cX6_away 6 = .ok (.iload_n 1, 1) := by decide +kernel
theorem dX6_away_7 : decode cX6_away 7 = .ok (.invokevirtual 179, 3) := by decide +kernel
theorem dX6_away_10 : decode cX6_away 10 = .ok (.ifCond .eq 10, 3) := by decide +kernel
theorem dX6_away_13 : decode cX6_away 13 = .ok (.iload_n 2, 1) := by decide +kernel
theorem dX6_away_14 : decode cX6_away 14 = .ok (.invokestatic 182, 3) := by decide +kernel
theorem dX6_away_17 : decode cX6_away 17 = .ok (.ifCond .ne 5, 3) := by decide +kernel
theorem dX6_away_20 : decode cX6_away 20 = .ok (.iconst (-1), 1) := by decide +kernel
theorem dX6_away_21 : decode cX6_away 21 = .ok (.ireturn, 1) := by decide +kernel
theorem dX6_away_22 : decode cX6_away 22 = .ok (.aload_n 0, 1) := by decide +kernel
theorem dX6_away_23 : decode cX6_away 23 = .ok (.iload_n 1, 1) := by decide +kernel
theorem dX6_away_24 : decode cX6_away 24 = .ok (.invokevirtual 176, 3) := by decide +kernel
theorem dX6_away_27 : decode cX6_away 27 = .ok (.aload_n 0, 1) := by decide +kernel
theorem dX6_away_28 : decode cX6_away 28 = .ok (.iload_n 2, 1) := by decide +kernel
theorem dX6_away_29 : decode cX6_away 29 = .ok (.invokevirtual 211, 3) := by decide +kernel
theorem dX6_away_32 : decode cX6_away 32 = .ok (.ifCond .ne 6, 3) := by decide +kernel
theorem dX6_away_35 : decode cX6_away 35 = .ok (.bipush (-2), 2) := by decide +kernel
theorem dX6_away_37 : decode cX6_away 37 = .ok (.ireturn, 1) := by decide +kernel
theorem dX6_away_38 : decode cX6_away 38 = .ok (.aload_n 0, 1) := by decide +kernel
theorem dX6_away_39 : decode cX6_away 39 = .ok (.iconst 0, 1) := by decide +kernel
theorem dX6_away_40 : decode cX6_away 40 = .ok (.putfield 200, 3) := by decide +kernel
theorem dX6_away_43 : decode cX6_away 43 = .ok (.iconst 1, 1) := by decide +kernel
theorem dX6_away_44 : decode cX6_away 44 = .ok (.istore_n 3, 1) := by decide +kernel
theorem dX6_away_45 : decode cX6_away 45 = .ok (.iload_n 3, 1) := by decide +kernel
theorem dX6_away_46 : decode cX6_away 46 = .ok (.bipush 12, 2) := by decide +kernel
theorem dX6_away_48 : decode cX6_away 48 = .ok (.if_icmp .ge 27, 3) := by decide +kernel
theorem dX6_away_51 : decode cX6_away 51 = .ok (.iload_n 3, 1) := by decide +kernel
theorem dX6_away_52 : decode cX6_away 52 = .ok (.iload_n 2, 1) := by decide +kernel
theorem dX6_away_53 : decode cX6_away 53 = .ok (.if_icmp .eq 16, 3) := by decide +kernel
theorem dX6_away_56 : decode cX6_away 56 = .ok (.aload_n 0, 1) := by decide +kernel
theorem dX6_away_57 : decode cX6_away 57 = .ok (.iload_n 3, 1) := by decide +kernel
theorem dX6_away_58 : decode cX6_away 58 = .ok (.invokevirtual 211, 3) := by decide +kernel
theorem dX6_away_61 : decode cX6_away 61 = .ok (.ifCond .eq 8, 3) := by decide +kernel
theorem dX6_away_64 : decode cX6_away 64 = .ok (.aload_n 0, 1) := by decide +kernel
theorem dX6_away_65 : decode cX6_away 65 = .ok (.iload_n 3, 1) := by decide +kernel
theorem dX6_away_66 : decode cX6_away 66 = .ok (.invokevirtual 263, 3) := by decide +kernel
theorem dX6_away_69 : decode cX6_away 69 = .ok (.iinc 3 1, 3) := by decide +kernel
theorem dX6_away_72 : decode cX6_away 72 = .ok (.goto (-27), 3) := by decide +kernel
theorem dX6_away_75 : decode cX6_away 75 = .ok (.aload_n 0, 1) := by decide +kernel
theorem dX6_away_76 : decode cX6_away 76 = .ok (.getfield 200, 3) := by decide +kernel
theorem dX6_away_79 : decode cX6_away 79 = .ok (.istore_n 3, 1) := by decide +kernel
theorem dX6_away_80 : decode cX6_away 80 = .ok (.aload_n 0, 1) := by decide +kernel
theorem dX6_away_81 : decode cX6_away 81 = .ok (.iload_n 2, 1) := by decide +kernel
theorem dX6_away_82 : decode cX6_away 82 = .ok (.invokevirtual 263, 3) := by decide +kernel
theorem dX6_away_85 : decode cX6_away 85 = .ok (.iconst 0, 1) := by decide +kernel
theorem dX6_away_86 : decode cX6_away 86 = .ok (.istore 4, 2) := by decide +kernel
theorem dX6_away_88 : decode cX6_away 88 = .ok (.iload_n 3, 1) := by decide +kernel
theorem dX6_away_89 : decode cX6_away 89 = .ok (.istore 5, 2) := by decide +kernel
theorem dX6_away_91 : decode cX6_away 91 = .ok (.iload 5, 2) := by decide +kernel
theorem dX6_away_93 : decode cX6_away 93 = .ok (.aload_n 0, 1) := by decide +kernel
theorem dX6_away_94 : decode cX6_away 94 = .ok (.getfield 200, 3) := by decide +kernel
theorem dX6_away_97 : decode cX6_away 97 = .ok (.if_icmp .ge 70, 3) := by decide +kernel
theorem dX6_away_100 : decode cX6_away 100 = .ok (.aload_n 0, 1) := by decide +kernel
theorem dX6_away_101 : decode cX6_away 101 = .ok (.iload_n 1, 1) := by decide +kernel
theorem dX6_away_102 : decode cX6_away 102 = .ok (.aload_n 0, 1) := by decide +kernel
theorem dX6_away_103 : decode cX6_away 103 = .ok (.getfield 85, 3) := by decide +kernel
theorem dX6_away_106 : decode cX6_away 106 = .ok (.iload 5, 2) := by decide +kernel
theorem dX6_away_108 : decode cX6_away 108 = .ok (.laload, 1) := by decide +kernel
theorem dX6_away_109 : decode cX6_away 109 = .ok (.aload_n 0, 1) := by decide +kernel
theorem dX6_away_110 : decode cX6_away 110 = .ok (.getfield 88, 3) := by decide +kernel
theorem dX6_away_113 : decode cX6_away 113 = .ok (.iload 5, 2) := by decide +kernel
theorem dX6_away_115 : decode cX6_away 115 = .ok (.iaload, 1) := by decide +kernel
theorem dX6_away_116 : decode cX6_away 116 = .ok (.invokevirtual 203, 3) := by decide +kernel
theorem dX6_away_119 : decode cX6_away 119 = .ok (.bipush (-9), 2) := by decide +kernel
theorem dX6_away_121 : decode cX6_away 121 = .ok (.if_icmp .eq 40, 3) := by decide +kernel
theorem dX6_away_124 : decode cX6_away 124 = .ok (.aload_n 0, 1) := by decide +kernel
theorem dX6_away_125 : decode cX6_away 125 = .ok (.iload_n 1, 1) := by decide +kernel
theorem dX6_away_126 : decode cX6_away 126 = .ok (.aload_n 0, 1) := by decide +kernel
theorem dX6_away_127 : decode cX6_away 127 = .ok (.getfield 85, 3) := by decide +kernel
theorem dX6_away_130 : decode cX6_away 130 = .ok (.iload 5, 2) := by decide +kernel
theorem dX6_away_132 : decode cX6_away 132 = .ok (.laload, 1) := by decide +kernel
theorem dX6_away_133 : decode cX6_away 133 = .ok (.aload_n 0, 1) := by decide +kernel
theorem dX6_away_134 : decode cX6_away 134 = .ok (.getfield 88, 3) := by decide +kernel
theorem dX6_away_137 : decode cX6_away 137 = .ok (.iload 5, 2) := by decide +kernel
theorem dX6_away_139 : decode cX6_away 139 = .ok (.iaload, 1) := by decide +kernel
theorem dX6_away_140 : decode cX6_away 140 = .ok (.invokevirtual 266, 3) := by decide +kernel
theorem dX6_away_143 : decode cX6_away 143 = .ok (.ifCond .ne 6, 3) := by decide +kernel
theorem dX6_away_146 : decode cX6_away 146 = .ok (.bipush (-2), 2) := by decide +kernel
theorem dX6_away_148 : decode cX6_away 148 = .ok (.ireturn, 1) := by decide +kernel
theorem dX6_away_149 : decode cX6_away 149 = .ok (.iload 4, 2) := by decide +kernel
theorem dX6_away_151 : decode cX6_away 151 = .ok (.aload_n 0, 1) := by decide +kernel
theorem dX6_away_152 : decode cX6_away 152 = .ok (.getfield 88, 3) := by decide +kernel
theorem dX6_away_155 : decode cX6_away 155 = .ok (.iload 5, 2) := by decide +kernel
theorem dX6_away_157 : decode cX6_away 157 = .ok (.iaload, 1) := by decide +kernel
theorem dX6_away_158 : decode cX6_away 158 = .ok (.iadd, 1) := by decide +kernel
theorem dX6_away_159 : decode cX6_away 159 = .ok (.istore 4, 2) := by decide +kernel
theorem dX6_away_161 : decode cX6_away 161 = .ok (.iinc 5 1, 3) := by decide +kernel
theorem dX6_away_164 : decode cX6_away 164 = .ok (.goto (-73), 3) := by decide +kernel
theorem dX6_away_167 : decode cX6_away 167 = .ok (.iload_n 3, 1) := by decide +kernel
theorem dX6_away_168 : decode cX6_away 168 = .ok (.istore 5, 2) := by decide +kernel
theorem dX6_away_170 : decode cX6_away 170 = .ok (.iload 5, 2) := by decide +kernel
theorem dX6_away_172 : decode cX6_away 172 = .ok (.aload_n 0, 1) := by decide +kernel
theorem dX6_away_173 : decode cX6_away 173 = .ok (.getfield 200, 3) := by decide +kernel
theorem dX6_away_176 : decode cX6_away 176 = .ok (.if_icmp .ge 107, 3) := by decide +kernel
theorem dX6_away_179 : decode cX6_away 179 = .ok (.aload_n 0, 1) := by decide +kernel
theorem dX6_away_180 : decode cX6_away 180 = .ok (.iload_n 1, 1) := by decide +kernel
theorem dX6_away_181 : decode cX6_away 181 = .ok (.aload_n 0, 1) := by decide +kernel
theorem dX6_away_182 : decode cX6_away 182 = .ok (.getfield 85, 3) := by decide +kernel
theorem dX6_away_185 : decode cX6_away 185 = .ok (.iload 5, 2) := by decide +kernel
theorem dX6_away_187 : decode cX6_away 187 = .ok (.laload, 1) := by decide +kernel
theorem dX6_away_188 : decode cX6_away 188 = .ok (.aload_n 0, 1) := by decide +kernel
theorem dX6_away_189 : decode cX6_away 189 = .ok (.getfield 88, 3) := by decide +kernel
theorem dX6_away_192 : decode cX6_away 192 = .ok (.iload 5, 2) := by decide +kernel
theorem dX6_away_194 : decode cX6_away 194 = .ok (.iaload, 1) := by decide +kernel
theorem dX6_away_195 : decode cX6_away 195 = .ok (.invokevirtual 203, 3) := by decide +kernel
theorem dX6_away_198 : decode cX6_away 198 = .ok (.istore 6, 2) := by decide +kernel
theorem dX6_away_200 : decode cX6_away 200 = .ok (.iload 6, 2) := by decide +kernel
theorem dX6_away_202 : decode cX6_away 202 = .ok (.bipush (-9), 2) := by decide +kernel
theorem dX6_away_204 : decode cX6_away 204 = .ok (.if_icmp .eq 73, 3) := by decide +kernel
theorem dX6_away_207 : decode cX6_away 207 = .ok (.aload_n 0, 1) := by decide +kernel
theorem dX6_away_208 : decode cX6_away 208 = .ok (.getfield 76, 3) := by decide +kernel
theorem dX6_away_211 : decode cX6_away 211 = .ok (.iload_n 1, 1) := by decide +kernel
theorem dX6_away_212 : decode cX6_away 212 = .ok (.dup2, 1) := by decide +kernel
theorem dX6_away_213 : decode cX6_away 213 = .ok (.iaload, 1) := by decide +kernel
theorem dX6_away_214 : decode cX6_away 214 = .ok (.iconst 1, 1) := by decide +kernel
theorem dX6_away_215 : decode cX6_away 215 = .ok (.isub, 1) := by decide +kernel
theorem dX6_away_216 : decode cX6_away 216 = .ok (.iastore, 1) := by decide +kernel
theorem dX6_away_217 : decode cX6_away 217 = .ok (.aload_n 0, 1) := by decide +kernel
theorem dX6_away_218 : decode cX6_away 218 = .ok (.getfield 79, 3) := by decide +kernel
theorem dX6_away_221 : decode cX6_away 221 = .ok (.sipush 200, 3) := by decide +kernel
theorem dX6_away_224 : decode cX6_away 224 = .ok (.iload_n 1, 1) := by decide +kernel
theorem dX6_away_225 : decode cX6_away 225 = .ok (.imul, 1) := by decide +kernel
theorem dX6_away_226 : decode cX6_away 226 = .ok (.iload 6, 2) := by decide +kernel
theorem dX6_away_228 : decode cX6_away 228 = .ok (.iadd, 1) := by decide +kernel
theorem dX6_away_229 : decode cX6_away 229 = .ok (.aload_n 0, 1) := by decide +kernel
theorem dX6_away_230 : decode cX6_away 230 = .ok (.getfield 79, 3) := by decide +kernel
theorem dX6_away_233 : decode cX6_away 233 = .ok (.sipush 200, 3) := by decide +kernel
theorem dX6_away_236 : decode cX6_away 236 = .ok (.iload_n 1, 1) := by decide +kernel
theorem dX6_away_237 : decode cX6_away 237 = .ok (.imul, 1) := by decide +kernel
theorem dX6_away_238 : decode cX6_away 238 = .ok (.aload_n 0, 1) := by decide +kernel
theorem dX6_away_239 : decode cX6_away 239 = .ok (.getfield 76, 3) := by decide +kernel
theorem dX6_away_242 : decode cX6_away 242 = .ok (.iload_n 1, 1) := by decide +kernel
theorem dX6_away_243 : decode cX6_away 243 = .ok (.iaload, 1) := by decide +kernel
theorem dX6_away_244 : decode cX6_away 244 = .ok (.iadd, 1) := by decide +kernel
theorem dX6_away_245 : decode cX6_away 245 = .ok (.laload, 1) := by decide +kernel
theorem dX6_away_246 : decode cX6_away 246 = .ok (.lastore, 1) := by decide +kernel
theorem dX6_away_247 : decode cX6_away 247 = .ok (.aload_n 0, 1) := by decide +kernel
theorem dX6_away_248 : decode cX6_away 248 = .ok (.getfield 82, 3) := by decide +kernel
theorem dX6_away_251 : decode cX6_away 251 = .ok (.sipush 200, 3) := by decide +kernel
theorem dX6_away_254 : decode cX6_away 254 = .ok (.iload_n 1, 1) := by decide +kernel
theorem dX6_away_255 : decode cX6_away 255 = .ok (.imul, 1) := by decide +kernel
theorem dX6_away_256 : decode cX6_away 256 = .ok (.iload 6, 2) := by decide +kernel
theorem dX6_away_258 : decode cX6_away 258 = .ok (.iadd, 1) := by decide +kernel
theorem dX6_away_259 : decode cX6_away 259 = .ok (.aload_n 0, 1) := by decide +kernel
theorem dX6_away_260 : decode cX6_away 260 = .ok (.getfield 82, 3) := by decide +kernel
theorem dX6_away_263 : decode cX6_away 263 = .ok (.sipush 200, 3) := by decide +kernel
theorem dX6_away_266 : decode cX6_away 266 = .ok (.iload_n 1, 1) := by decide +kernel
theorem dX6_away_267 : decode cX6_away 267 = .ok (.imul, 1) := by decide +kernel
theorem dX6_away_268 : decode cX6_away 268 = .ok (.aload_n 0, 1) := by decide +kernel
theorem dX6_away_269 : decode cX6_away 269 = .ok (.getfield 76, 3) := by decide +kernel
theorem dX6_away_272 : decode cX6_away 272 = .ok (.iload_n 1, 1) := by decide +kernel
theorem dX6_away_273 : decode cX6_away 273 = .ok (.iaload, 1) := by decide +kernel
theorem dX6_away_274 : decode cX6_away 274 = .ok (.iadd, 1) := by decide +kernel
theorem dX6_away_275 : decode cX6_away 275 = .ok (.iaload, 1) := by decide +kernel
theorem dX6_away_276 : decode cX6_away 276 = .ok (.iastore, 1) := by decide +kernel
theorem dX6_away_277 : decode cX6_away 277 = .ok (.iinc 5 1, 3) := by decide +kernel
theorem dX6_away_280 : decode cX6_away 280 = .ok (.goto (-110), 3) := by decide +kernel
theorem dX6_away_283 : decode cX6_away 283 = .ok (.iload 4, 2) := by decide +kernel
theorem dX6_away_285 : decode cX6_away 285 = .ok (.ireturn, 1) := by decide +kernel
theorem dX6_night_0 : decode cX6_night 0 = .ok (.aload_n 0, 1) := by decide +kernel
theorem dX6_night_1 : decode cX6_night 1 = .ok (.iconst 0, 1) := by decide +kernel
theorem dX6_night_2 : decode cX6_night 2 = .ok (.putfield 106, 3) := by decide +kernel
theorem dX6_night_5 : decode cX6_night 5 = .ok (.aload_n 0, 1) := by decide +kernel
theorem dX6_night_6 : decode cX6_night 6 = .ok (.getfield 109, 3) := by decide +kernel
theorem dX6_night_9 : decode cX6_night 9 = .ok (.bipush 29, 2) := by decide +kernel
theorem dX6_night_11 : decode cX6_night 11 = .ok (.if_icmp .ne 6, 3) := by decide +kernel
theorem dX6_night_14 : decode cX6_night 14 = .ok (.bipush (-2), 2) := by decide +kernel
theorem dX6_night_16 : decode cX6_night 16 = .ok (.ireturn, 1) := by decide +kernel
theorem dX6_night_17 : decode cX6_night 17 = .ok (.iconst 0, 1) := by decide +kernel
theorem dX6_night_18 : decode cX6_night 18 = .ok (.istore_n 1, 1) := by decide +kernel
theorem dX6_night_19 : decode cX6_night 19 = .ok (.iload_n 1, 1) := by decide +kernel
theorem dX6_night_20 : decode cX6_night 20 = .ok (.bipush 16, 2) := by decide +kernel
theorem dX6_night_22 : decode cX6_night 22 = .ok (.if_icmp .ge 29, 3) := by decide +kernel
theorem dX6_night_25 : decode cX6_night 25 = .ok (.aload_n 0, 1) := by decide +kernel
theorem dX6_night_26 : decode cX6_night 26 = .ok (.getfield 27, 3) := by decide +kernel
theorem dX6_night_29 : decode cX6_night 29 = .ok (.bipush 16, 2) := by decide +kernel
theorem dX6_night_31 : decode cX6_night 31 = .ok (.aload_n 0, 1) := by decide +kernel
theorem dX6_night_32 : decode cX6_night 32 = .ok (.getfield 109, 3) := by decide +kernel
theorem dX6_night_35 : decode cX6_night 35 = .ok (.imul, 1) := by decide +kernel
theorem dX6_night_36 : decode cX6_night 36 = .ok (.iload_n 1, 1) := by decide +kernel
theorem dX6_night_37 : decode cX6_night 37 = .ok (.iadd, 1) := by decide +kernel
theorem dX6_night_38 : decode cX6_night 38 = .ok (.aload_n 0, 1) := by decide +kernel
theorem dX6_night_39 : decode cX6_night 39 = .ok (.getfield 24, 3) := by decide +kernel
theorem dX6_night_42 : decode cX6_night 42 = .ok (.iload_n 1, 1) := by decide +kernel
theorem dX6_night_43 : decode cX6_night 43 = .ok (.iaload, 1) := by decide +kernel
theorem dX6_night_44 : decode cX6_night 44 = .ok (.iastore, 1) := by decide +kernel
theorem dX6_night_45 : decode cX6_night 45 = .ok (.iinc 1 1, 3) := by decide +kernel
theorem dX6_night_48 : decode cX6_night 48 = .ok (.goto (-29), 3) := by decide +kernel
theorem dX6_night_51 : decode cX6_night 51 = .ok (.aload_n 0, 1) := by decide +kernel
theorem dX6_night_52 : decode cX6_night 52 = .ok (.dup, 1) := by decide +kernel
theorem dX6_night_53 : decode cX6_night 53 = .ok (.getfield 109, 3) := by decide +kernel
theorem dX6_night_56 : decode cX6_night 56 = .ok (.iconst 1, 1) := by decide +kernel
theorem dX6_night_57 : decode cX6_night 57 = .ok (.iadd, 1) := by decide +kernel
theorem dX6_night_58 : decode cX6_night 58 = .ok (.putfield 109, 3) := by decide +kernel
theorem dX6_night_61 : decode cX6_night 61 = .ok (.aload_n 0, 1) := by decide +kernel
theorem dX6_night_62 : decode cX6_night 62 = .ok (.getfield 109, 3) := by decide +kernel
theorem dX6_night_65 : decode cX6_night 65 = .ok (.ireturn, 1) := by decide +kernel
theorem dX6_share_0 : decode cX6_share 0 = .ok (.aload_n 0, 1) := by decide +kernel
theorem dX6_share_1 : decode cX6_share 1 = .ok (.iconst 0, 1) := by decide +kernel
theorem dX6_share_2 : decode cX6_share 2 = .ok (.putfield 106, 3) := by decide +kernel
theorem dX6_share_5 : decode cX6_share 5 = .ok (.iload_n 1, 1) := by decide +kernel
theorem dX6_share_6 : decode cX6_share 6 = .ok (.iconst 0, 1) := by decide +kernel
theorem dX6_share_7 : decode cX6_share 7 = .ok (.bipush 7, 2) := by decide +kernel
theorem dX6_share_9 : decode cX6_share 9 = .ok (.invokestatic 115, 3) := by decide +kernel
theorem dX6_share_12 : decode cX6_share 12 = .ok (.ifCond .eq 10, 3) := by decide +kernel
theorem dX6_share_15 : decode cX6_share 15 = .ok (.iload_n 2, 1) := by decide +kernel
theorem dX6_share_16 : decode cX6_share 16 = .ok (.invokestatic 182, 3) := by decide +kernel
theorem dX6_share_19 : decode cX6_share 19 = .ok (.ifCond .ne 5, 3) := by decide +kernel
theorem dX6_share_22 : decode cX6_share 22 = .ok (.iconst (-1), 1) := by decide +kernel
theorem dX6_share_23 : decode cX6_share 23 = .ok (.ireturn, 1) := by decide +kernel
theorem dX6_share_24 : decode cX6_share 24 = .ok (.aload_n 0, 1) := by decide +kernel
theorem dX6_share_25 : decode cX6_share 25 = .ok (.getfield 112, 3) := by decide +kernel
theorem dX6_share_28 : decode cX6_share 28 = .ok (.bipush 20, 2) := by decide +kernel
theorem dX6_share_30 : decode cX6_share 30 = .ok (.if_icmp .ne 6, 3) := by decide +kernel
theorem dX6_share_33 : decode cX6_share 33 = .ok (.bipush (-3), 2) := by decide +kernel
theorem dX6_share_35 : decode cX6_share 35 = .ok (.ireturn, 1) := by decide +kernel
theorem dX6_share_36 : decode cX6_share 36 = .ok (.aload_n 0, 1) := by decide +kernel
theorem dX6_share_37 : decode cX6_share 37 = .ok (.getfield 91, 3) := by decide +kernel
theorem dX6_share_40 : decode cX6_share 40 = .ok (.aload_n 0, 1) := by decide +kernel
theorem dX6_share_41 : decode cX6_share 41 = .ok (.getfield 112, 3) := by decide +kernel
theorem dX6_share_44 : decode cX6_share 44 = .ok (.iload_n 1, 1) := by decide +kernel
theorem dX6_share_45 : decode cX6_share 45 = .ok (.iastore, 1) := by decide +kernel
theorem dX6_share_46 : decode cX6_share 46 = .ok (.aload_n 0, 1) := by decide +kernel
theorem dX6_share_47 : decode cX6_share 47 = .ok (.getfield 94, 3) := by decide +kernel
theorem dX6_share_50 : decode cX6_share 50 = .ok (.aload_n 0, 1) := by decide +kernel
theorem dX6_share_51 : decode cX6_share 51 = .ok (.getfield 112, 3) := by decide +kernel
theorem dX6_share_54 : decode cX6_share 54 = .ok (.iload_n 2, 1) := by decide +kernel
theorem dX6_share_55 : decode cX6_share 55 = .ok (.iastore, 1) := by decide +kernel
theorem dX6_share_56 : decode cX6_share 56 = .ok (.aload_n 0, 1) := by decide +kernel
theorem dX6_share_57 : decode cX6_share 57 = .ok (.getfield 97, 3) := by decide +kernel
theorem dX6_share_60 : decode cX6_share 60 = .ok (.aload_n 0, 1) := by decide +kernel
theorem dX6_share_61 : decode cX6_share 61 = .ok (.getfield 112, 3) := by decide +kernel
theorem dX6_share_64 : decode cX6_share 64 = .ok (.aload_n 0, 1) := by decide +kernel
theorem dX6_share_65 : decode cX6_share 65 = .ok (.getfield 109, 3) := by decide +kernel
theorem dX6_share_68 : decode cX6_share 68 = .ok (.iastore, 1) := by decide +kernel
theorem dX6_share_69 : decode cX6_share 69 = .ok (.aload_n 0, 1) := by decide +kernel
theorem dX6_share_70 : decode cX6_share 70 = .ok (.getfield 100, 3) := by decide +kernel
theorem dX6_share_73 : decode cX6_share 73 = .ok (.aload_n 0, 1) := by decide +kernel
theorem dX6_share_74 : decode cX6_share 74 = .ok (.getfield 112, 3) := by decide +kernel
theorem dX6_share_77 : decode cX6_share 77 = .ok (.bipush (-9), 2) := by decide +kernel
theorem dX6_share_79 : decode cX6_share 79 = .ok (.iastore, 1) := by decide +kernel
theorem dX6_share_80 : decode cX6_share 80 = .ok (.aload_n 0, 1) := by decide +kernel
theorem dX6_share_81 : decode cX6_share 81 = .ok (.dup, 1) := by decide +kernel
theorem dX6_share_82 : decode cX6_share 82 = .ok (.getfield 112, 3) := by decide +kernel
theorem dX6_share_85 : decode cX6_share 85 = .ok (.iconst 1, 1) := by decide +kernel
theorem dX6_share_86 : decode cX6_share 86 = .ok (.iadd, 1) := by decide +kernel
theorem dX6_share_87 : decode cX6_share 87 = .ok (.putfield 112, 3) := by decide +kernel
theorem dX6_share_90 : decode cX6_share 90 = .ok (.aload_n 0, 1) := by decide +kernel
theorem dX6_share_91 : decode cX6_share 91 = .ok (.getfield 112, 3) := by decide +kernel
theorem dX6_share_94 : decode cX6_share 94 = .ok (.iconst 1, 1) := by decide +kernel
theorem dX6_share_95 : decode cX6_share 95 = .ok (.isub, 1) := by decide +kernel
theorem dX6_share_96 : decode cX6_share 96 = .ok (.ireturn, 1) := by decide +kernel
theorem dX6_take_0 : decode cX6_take 0 = .ok (.aload_n 0, 1) := by decide +kernel
theorem dX6_take_1 : decode cX6_take 1 = .ok (.iconst 0, 1) := by decide +kernel
theorem dX6_take_2 : decode cX6_take 2 = .ok (.putfield 106, 3) := by decide +kernel
theorem dX6_take_5 : decode cX6_take 5 = .ok (.iload_n 1, 1) := by decide +kernel
theorem dX6_take_6 : decode cX6_take 6 = .ok (.iconst 0, 1) := by decide +kernel
theorem dX6_take_7 : decode cX6_take 7 = .ok (.aload_n 0, 1) := by decide +kernel
theorem dX6_take_8 : decode cX6_take 8 = .ok (.getfield 112, 3) := by decide +kernel
theorem dX6_take_11 : decode cX6_take 11 = .ok (.iconst 1, 1) := by decide +kernel
theorem dX6_take_12 : decode cX6_take 12 = .ok (.isub, 1) := by decide +kernel
theorem dX6_take_13 : decode cX6_take 13 = .ok (.invokestatic 115, 3) := by decide +kernel
theorem dX6_take_16 : decode cX6_take 16 = .ok (.ifCond .ne 5, 3) := by decide +kernel
theorem dX6_take_19 : decode cX6_take 19 = .ok (.iconst (-1), 1) := by decide +kernel
theorem dX6_take_20 : decode cX6_take 20 = .ok (.ireturn, 1) := by decide +kernel
theorem dX6_take_21 : decode cX6_take 21 = .ok (.aload_n 0, 1) := by decide +kernel
theorem dX6_take_22 : decode cX6_take 22 = .ok (.getfield 100, 3) := by decide +kernel
theorem dX6_take_25 : decode cX6_take 25 = .ok (.iload_n 1, 1) := by decide +kernel
theorem dX6_take_26 : decode cX6_take 26 = .ok (.iaload, 1) := by decide +kernel
theorem dX6_take_27 : decode cX6_take 27 = .ok (.bipush (-9), 2) := by decide +kernel
theorem dX6_take_29 : decode cX6_take 29 = .ok (.if_icmp .eq 6, 3) := by decide +kernel
theorem dX6_take_32 : decode cX6_take 32 = .ok (.bipush (-2), 2) := by decide +kernel
theorem dX6_take_34 : decode cX6_take 34 = .ok (.ireturn, 1) := by decide +kernel
theorem dX6_take_35 : decode cX6_take 35 = .ok (.aload_n 0, 1) := by decide +kernel
theorem dX6_take_36 : decode cX6_take 36 = .ok (.getfield 100, 3) := by decide +kernel
theorem dX6_take_39 : decode cX6_take 39 = .ok (.iload_n 1, 1) := by decide +kernel
theorem dX6_take_40 : decode cX6_take 40 = .ok (.aload_n 0, 1) := by decide +kernel
theorem dX6_take_41 : decode cX6_take 41 = .ok (.getfield 109, 3) := by decide +kernel
theorem dX6_take_44 : decode cX6_take 44 = .ok (.iastore, 1) := by decide +kernel
theorem dX6_take_45 : decode cX6_take 45 = .ok (.aload_n 0, 1) := by decide +kernel
theorem dX6_take_46 : decode cX6_take 46 = .ok (.getfield 97, 3) := by decide +kernel
theorem dX6_take_49 : decode cX6_take 49 = .ok (.iload_n 1, 1) := by decide +kernel
theorem dX6_take_50 : decode cX6_take 50 = .ok (.iaload, 1) := by decide +kernel
theorem dX6_take_51 : decode cX6_take 51 = .ok (.ireturn, 1) := by decide +kernel
theorem dX6_could_0 : decode cX6_could 0 = .ok (.aload_n 0, 1) := by decide +kernel
theorem dX6_could_1 : decode cX6_could 1 = .ok (.iconst 0, 1) := by decide +kernel
theorem dX6_could_2 : decode cX6_could 2 = .ok (.putfield 106, 3) := by decide +kernel
theorem dX6_could_5 : decode cX6_could 5 = .ok (.iload_n 1, 1) := by decide +kernel
theorem dX6_could_6 : decode cX6_could 6 = .ok (.iconst 0, 1) := by decide +kernel
theorem dX6_could_7 : decode cX6_could 7 = .ok (.bipush 7, 2) := by decide +kernel
theorem dX6_could_9 : decode cX6_could 9 = .ok (.invokestatic 115, 3) := by decide +kernel
theorem dX6_could_12 : decode cX6_could 12 = .ok (.ifCond .eq 27, 3) := by decide +kernel
theorem dX6_could_15 : decode cX6_could 15 = .ok (.aload_n 0, 1) := by decide +kernel
theorem dX6_could_16 : decode cX6_could 16 = .ok (.iload_n 2, 1) := by decide +kernel
theorem dX6_could_17 : decode cX6_could 17 = .ok (.invokevirtual 179, 3) := by decide +kernel
theorem dX6_could_20 : decode cX6_could 20 = .ok (.ifCond .eq 19, 3) := by decide +kernel
theorem dX6_could_23 : decode cX6_could 23 = .ok (.iload_n 3, 1) := by decide +kernel
theorem dX6_could_24 : decode cX6_could 24 = .ok (.invokestatic 182, 3) := by decide +kernel
theorem dX6_could_27 : decode cX6_could 27 = .ok (.ifCond .eq 12, 3) := by decide +kernel
theorem dX6_could_30 : decode cX6_could 30 = .ok (.aload_n 0, 1) := by decide +kernel
theorem dX6_could_31 : decode cX6_could 31 = .ok (.iload 4, 2) := by decide +kernel
theorem dX6_could_33 : decode cX6_could 33 = .ok (.invokevirtual 224, 3) := by decide +kernel
theorem dX6_could_36 : decode cX6_could 36 = .ok (.ifCond .ne 5, 3) := by decide +kernel
theorem dX6_could_39 : decode cX6_could 39 = .ok (.iconst (-1), 1) := by decide +kernel
theorem dX6_could_40 : decode cX6_could 40 = .ok (.ireturn, 1) := by decide +kernel
theorem dX6_could_41 : decode cX6_could 41 = .ok (.aload_n 0, 1) := by decide +kernel
theorem dX6_could_42 : decode cX6_could 42 = .ok (.iload_n 2, 1) := by decide +kernel
theorem dX6_could_43 : decode cX6_could 43 = .ok (.iload 4, 2) := by decide +kernel
theorem dX6_could_45 : decode cX6_could 45 = .ok (.invokevirtual 227, 3) := by decide +kernel
theorem dX6_could_48 : decode cX6_could 48 = .ok (.aload_n 0, 1) := by decide +kernel
theorem dX6_could_49 : decode cX6_could 49 = .ok (.getfield 46, 3) := by decide +kernel
theorem dX6_could_52 : decode cX6_could 52 = .ok (.iload_n 3, 1) := by decide +kernel
theorem dX6_could_53 : decode cX6_could 53 = .ok (.baload, 1) := by decide +kernel
theorem dX6_could_54 : decode cX6_could 54 = .ok (.ifCond .ne 6, 3) := by decide +kernel
theorem dX6_could_57 : decode cX6_could 57 = .ok (.bipush (-2), 2) := by decide +kernel
theorem dX6_could_59 : decode cX6_could 59 = .ok (.ireturn, 1) := by decide +kernel
theorem dX6_could_60 : decode cX6_could 60 = .ok (.iconst 0, 1) := by decide +kernel
theorem dX6_could_61 : decode cX6_could 61 = .ok (.istore 5, 2) := by decide +kernel
theorem dX6_could_63 : decode cX6_could 63 = .ok (.iconst 0, 1) := by decide +kernel
theorem dX6_could_64 : decode cX6_could 64 = .ok (.istore 6, 2) := by decide +kernel
theorem dX6_could_66 : decode cX6_could 66 = .ok (.iload 6, 2) := by decide +kernel
theorem dX6_could_68 : decode cX6_could 68 = .ok (.aload_n 0, 1) := by decide +kernel
theorem dX6_could_69 : decode cX6_could 69 = .ok (.getfield 112, 3) := by decide +kernel
theorem dX6_could_72 : decode cX6_could 72 = .ok (.if_icmp .ge 81, 3) := by decide +kernel
theorem dX6_could_75 : decode cX6_could 75 = .ok (.iload 5, 2) := by decide +kernel
theorem dX6_could_77 : decode cX6_could 77 = .ok (.aload_n 0, 1) := by decide +kernel
theorem dX6_could_78 : decode cX6_could 78 = .ok (.getfield 91, 3) := by decide +kernel
theorem dX6_could_81 : decode cX6_could 81 = .ok (.iload 6, 2) := by decide +kernel
theorem dX6_could_83 : decode cX6_could 83 = .ok (.iaload, 1) := by decide +kernel
theorem dX6_could_84 : decode cX6_could 84 = .ok (.iload_n 1, 1) := by decide +kernel
theorem dX6_could_85 : decode cX6_could 85 = .ok (.if_icmp .ne 58, 3) := by decide +kernel
theorem dX6_could_88 : decode cX6_could 88 = .ok (.aload_n 0, 1) := by decide +kernel
theorem dX6_could_89 : decode cX6_could 89 = .ok (.getfield 97, 3) := by decide +kernel
theorem dX6_could_92 : decode cX6_could 92 = .ok (.iload 6, 2) := by decide +kernel
theorem dX6_could_94 : decode cX6_could 94 = .ok (.iaload, 1) := by decide +kernel
theorem dX6_could_95 : decode cX6_could 95 = .ok (.iload 4, 2) := by decide +kernel
theorem dX6_could_97 : decode cX6_could 97 = .ok (.if_icmp .gt 46, 3) := by decide +kernel
theorem dX6_could_100 : decode cX6_could 100 = .ok (.aload_n 0, 1) := by decide +kernel
theorem dX6_could_101 : decode cX6_could 101 = .ok (.getfield 100, 3) := by decide +kernel
theorem dX6_could_104 : decode cX6_could 104 = .ok (.iload 6, 2) := by decide +kernel
theorem dX6_could_106 : decode cX6_could 106 = .ok (.iaload, 1) := by decide +kernel
theorem dX6_could_107 : decode cX6_could 107 = .ok (.bipush (-9), 2) := by decide +kernel
theorem dX6_could_109 : decode cX6_could 109 = .ok (.if_icmp .eq 15, 3) := by decide +kernel
theorem dX6_could_112 : decode cX6_could 112 = .ok (.aload_n 0, 1) := by decide +kernel
theorem dX6_could_113 : decode cX6_could 113 = .ok (.getfield 100, 3) := by decide +kernel
theorem dX6_could_116 : decode cX6_could 116 = .ok (.iload 6, 2) := by decide +kernel
theorem dX6_could_118 : decode cX6_could 118 = .ok (.iaload, 1) := by decide +kernel
theorem dX6_could_119 : decode cX6_could 119 = .ok (.iload 4, 2) := by decide +kernel
theorem dX6_could_121 : decode cX6_could 121 = .ok (.if_icmp .le 22, 3) := by decide +kernel
theorem dX6_could_124 : decode cX6_could 124 = .ok (.aload_n 0, 1) := by decide +kernel
theorem dX6_could_125 : decode cX6_could 125 = .ok (.iload_n 3, 1) := by decide +kernel
theorem dX6_could_126 : decode cX6_could 126 = .ok (.aload_n 0, 1) := by decide +kernel
theorem dX6_could_127 : decode cX6_could 127 = .ok (.getfield 94, 3) := by decide +kernel
theorem dX6_could_130 : decode cX6_could 130 = .ok (.iload 6, 2) := by decide +kernel
theorem dX6_could_132 : decode cX6_could 132 = .ok (.iaload, 1) := by decide +kernel
theorem dX6_could_133 : decode cX6_could 133 = .ok (.invokevirtual 130, 3) := by decide +kernel
theorem dX6_could_136 : decode cX6_could 136 = .ok (.ifCond .eq 7, 3) := by decide +kernel
theorem dX6_could_139 : decode cX6_could 139 = .ok (.iconst 1, 1) := by decide +kernel
theorem dX6_could_140 : decode cX6_could 140 = .ok (.goto 4, 3) := by decide +kernel
theorem dX6_could_143 : decode cX6_could 143 = .ok (.iconst 0, 1) := by decide +kernel
theorem dX6_could_144 : decode cX6_could 144 = .ok (.ior, 1) := by decide +kernel
theorem dX6_could_145 : decode cX6_could 145 = .ok (.istore 5, 2) := by decide +kernel
theorem dX6_could_147 : decode cX6_could 147 = .ok (.iinc 6 1, 3) := by decide +kernel
theorem dX6_could_150 : decode cX6_could 150 = .ok (.goto (-84), 3) := by decide +kernel
theorem dX6_could_153 : decode cX6_could 153 = .ok (.iload 5, 2) := by decide +kernel
theorem dX6_could_155 : decode cX6_could 155 = .ok (.ifCond .eq 7, 3) := by decide +kernel
theorem dX6_could_158 : decode cX6_could 158 = .ok (.iconst 1, 1) := by decide +kernel
theorem dX6_could_159 : decode cX6_could 159 = .ok (.goto 4, 3) := by decide +kernel
theorem dX6_could_162 : decode cX6_could 162 = .ok (.iconst 0, 1) := by decide +kernel
theorem dX6_could_163 : decode cX6_could 163 = .ok (.ireturn, 1) := by decide +kernel
theorem dX6_power_0 : decode cX6_power 0 = .ok (.lconst 1, 1) := by decide +kernel
theorem dX6_power_1 : decode cX6_power 1 = .ok (.lstore_n 2, 1) := by decide +kernel
theorem dX6_power_2 : decode cX6_power 2 = .ok (.iconst 0, 1) := by decide +kernel
theorem dX6_power_3 : decode cX6_power 3 = .ok (.istore 4, 2) := by decide +kernel
theorem dX6_power_5 : decode cX6_power 5 = .ok (.iload 4, 2) := by decide +kernel
theorem dX6_power_7 : decode cX6_power 7 = .ok (.iload_n 1, 1) := by decide +kernel
theorem dX6_power_8 : decode cX6_power 8 = .ok (.if_icmp .ge 14, 3) := by decide +kernel
theorem dX6_power_11 : decode cX6_power 11 = .ok (.lload_n 2, 1) := by decide +kernel
theorem dX6_power_12 : decode cX6_power 12 = .ok (.iload_n 0, 1) := by decide +kernel
theorem dX6_power_13 : decode cX6_power 13 = .ok (.i2l, 1) := by decide +kernel
theorem dX6_power_14 : decode cX6_power 14 = .ok (.lmul, 1) := by decide +kernel
theorem dX6_power_15 : decode cX6_power 15 = .ok (.lstore_n 2, 1) := by decide +kernel
theorem dX6_power_16 : decode cX6_power 16 = .ok (.iinc 4 1, 3) := by decide +kernel
theorem dX6_power_19 : decode cX6_power 19 = .ok (.goto (-14), 3) := by decide +kernel
theorem dX6_power_22 : decode cX6_power 22 = .ok (.lload_n 2, 1) := by decide +kernel
theorem dX6_power_23 : decode cX6_power 23 = .ok (.lreturn, 1) := by decide +kernel
theorem dX6_choose_0 : decode cX6_choose 0 = .ok (.lconst 1, 1) := by decide +kernel
theorem dX6_choose_1 : decode cX6_choose 1 = .ok (.lstore_n 2, 1) := by decide +kernel
theorem dX6_choose_2 : decode cX6_choose 2 = .ok (.iconst 1, 1) := by decide +kernel
theorem dX6_choose_3 : decode cX6_choose 3 = .ok (.istore 4, 2) := by decide +kernel
theorem dX6_choose_5 : decode cX6_choose 5 = .ok (.iload 4, 2) := by decide +kernel
theorem dX6_choose_7 : decode cX6_choose 7 = .ok (.iload_n 1, 1) := by decide +kernel
theorem dX6_choose_8 : decode cX6_choose 8 = .ok (.if_icmp .gt 23, 3) := by decide +kernel
theorem dX6_choose_11 : decode cX6_choose 11 = .ok (.lload_n 2, 1) := by decide +kernel
theorem dX6_choose_12 : decode cX6_choose 12 = .ok (.iload_n 0, 1) := by decide +kernel
theorem dX6_choose_13 : decode cX6_choose 13 = .ok (.iload_n 1, 1) := by decide +kernel
theorem dX6_choose_14 : decode cX6_choose 14 = .ok (.isub, 1) := by decide +kernel
theorem dX6_choose_15 : decode cX6_choose 15 = .ok (.iload 4, 2) := by decide +kernel
theorem dX6_choose_17 : decode cX6_choose 17 = .ok (.iadd, 1) := by decide +kernel
theorem dX6_choose_18 : decode cX6_choose 18 = .ok (.i2l, 1) := by decide +kernel
theorem dX6_choose_19 : decode cX6_choose 19 = .ok (.lmul, 1) := by decide +kernel
theorem dX6_choose_20 : decode cX6_choose 20 = .ok (.iload 4, 2) := by decide +kernel
theorem dX6_choose_22 : decode cX6_choose 22 = .ok (.i2l, 1) := by decide +kernel
theorem dX6_choose_23 : decode cX6_choose 23 = .ok (.ldiv, 1) := by decide +kernel
theorem dX6_choose_24 : decode cX6_choose 24 = .ok (.lstore_n 2, 1) := by decide +kernel
theorem dX6_choose_25 : decode cX6_choose 25 = .ok (.iinc 4 1, 3) := by decide +kernel
theorem dX6_choose_28 : decode cX6_choose 28 = .ok (.goto (-23), 3) := by decide +kernel
theorem dX6_choose_31 : decode cX6_choose 31 = .ok (.lload_n 2, 1) := by decide +kernel
theorem dX6_choose_32 : decode cX6_choose 32 = .ok (.lreturn, 1) := by decide +kernel
theorem dX6_odd_0 : decode cX6_odd 0 = .ok (.aload_n 0, 1) := by decide +kernel
theorem dX6_odd_1 : decode cX6_odd 1 = .ok (.iconst 0, 1) := by decide +kernel
theorem dX6_odd_2 : decode cX6_odd 2 = .ok (.putfield 106, 3) := by decide +kernel
theorem dX6_odd_5 : decode cX6_odd 5 = .ok (.aload_n 0, 1) := by decide +kernel
theorem dX6_odd_6 : decode cX6_odd 6 = .ok (.iload_n 1, 1) := by decide +kernel
theorem dX6_odd_7 : decode cX6_odd 7 = .ok (.invokevirtual 179, 3) := by decide +kernel
theorem dX6_odd_10 : decode cX6_odd 10 = .ok (.ifCond .eq 20, 3) := by decide +kernel
theorem dX6_odd_13 : decode cX6_odd 13 = .ok (.aload_n 0, 1) := by decide +kernel
theorem dX6_odd_14 : decode cX6_odd 14 = .ok (.iload_n 2, 1) := by decide +kernel
theorem dX6_odd_15 : decode cX6_odd 15 = .ok (.invokevirtual 224, 3) := by decide +kernel
theorem dX6_odd_18 : decode cX6_odd 18 = .ok (.ifCond .eq 12, 3) := by decide +kernel
theorem dX6_odd_21 : decode cX6_odd 21 = .ok (.iload_n 3, 1) := by decide +kernel
theorem dX6_odd_22 : decode cX6_odd 22 = .ok (.iconst 0, 1) := by decide +kernel
theorem dX6_odd_23 : decode cX6_odd 23 = .ok (.iconst 1, 1) := by decide +kernel
theorem dX6_odd_24 : decode cX6_odd 24 = .ok (.invokestatic 115, 3) := by decide +kernel
theorem dX6_odd_27 : decode cX6_odd 27 = .ok (.ifCond .ne 7, 3) := by decide +kernel
theorem dX6_odd_30 : decode cX6_odd 30 = .ok (.ldc2_w 270, 3) := by decide +kernel
theorem dX6_odd_33 : decode cX6_odd 33 = .ok (.lreturn, 1) := by decide +kernel
theorem dX6_odd_34 : decode cX6_odd 34 = .ok (.aload_n 0, 1) := by decide +kernel
theorem dX6_odd_35 : decode cX6_odd 35 = .ok (.getfield 13, 3) := by decide +kernel
theorem dX6_odd_38 : decode cX6_odd 38 = .ok (.iload_n 1, 1) := by decide +kernel
theorem dX6_odd_39 : decode cX6_odd 39 = .ok (.iaload, 1) := by decide +kernel
theorem dX6_odd_40 : decode cX6_odd 40 = .ok (.istore 4, 2) := by decide +kernel
theorem dX6_odd_42 : decode cX6_odd 42 = .ok (.aload_n 0, 1) := by decide +kernel
theorem dX6_odd_43 : decode cX6_odd 43 = .ok (.getfield 109, 3) := by decide +kernel
theorem dX6_odd_46 : decode cX6_odd 46 = .ok (.iconst 1, 1) := by decide +kernel
theorem dX6_odd_47 : decode cX6_odd 47 = .ok (.iadd, 1) := by decide +kernel
theorem dX6_odd_48 : decode cX6_odd 48 = .ok (.bipush 8, 2) := by decide +kernel
theorem dX6_odd_50 : decode cX6_odd 50 = .ok (.if_icmp .gt 10, 3) := by decide +kernel
theorem dX6_odd_53 : decode cX6_odd 53 = .ok (.iload 4, 2) := by decide +kernel
theorem dX6_odd_55 : decode cX6_odd 55 = .ok (.bipush 12, 2) := by decide +kernel
theorem dX6_odd_57 : decode cX6_odd 57 = .ok (.if_icmp .le 7, 3) := by decide +kernel
theorem dX6_odd_60 : decode cX6_odd 60 = .ok (.ldc2_w 272, 3) := by decide +kernel
theorem dX6_odd_63 : decode cX6_odd 63 = .ok (.lreturn, 1) := by decide +kernel
theorem dX6_odd_64 : decode cX6_odd 64 = .ok (.iload_n 3, 1) := by decide +kernel
theorem dX6_odd_65 : decode cX6_odd 65 = .ok (.iconst 1, 1) := by decide +kernel
theorem dX6_odd_66 : decode cX6_odd 66 = .ok (.if_icmp .ne 15, 3) := by decide +kernel
theorem dX6_odd_69 : decode cX6_odd 69 = .ok (.aload_n 0, 1) := by decide +kernel
theorem dX6_odd_70 : decode cX6_odd 70 = .ok (.getfield 109, 3) := by decide +kernel
theorem dX6_odd_73 : decode cX6_odd 73 = .ok (.iconst 1, 1) := by decide +kernel
theorem dX6_odd_74 : decode cX6_odd 74 = .ok (.iadd, 1) := by decide +kernel
theorem dX6_odd_75 : decode cX6_odd 75 = .ok (.iload 4, 2) := by decide +kernel
theorem dX6_odd_77 : decode cX6_odd 77 = .ok (.invokestatic 274, 3) := by decide +kernel
theorem dX6_odd_80 : decode cX6_odd 80 = .ok (.lreturn, 1) := by decide +kernel
theorem dX6_odd_81 : decode cX6_odd 81 = .ok (.iconst 0, 1) := by decide +kernel
theorem dX6_odd_82 : decode cX6_odd 82 = .ok (.istore 5, 2) := by decide +kernel
theorem dX6_odd_84 : decode cX6_odd 84 = .ok (.iconst 0, 1) := by decide +kernel
theorem dX6_odd_85 : decode cX6_odd 85 = .ok (.istore 6, 2) := by decide +kernel
theorem dX6_odd_87 : decode cX6_odd 87 = .ok (.iload 6, 2) := by decide +kernel
theorem dX6_odd_89 : decode cX6_odd 89 = .ok (.iload 4, 2) := by decide +kernel
theorem dX6_odd_91 : decode cX6_odd 91 = .ok (.if_icmp .ge 36, 3) := by decide +kernel
theorem dX6_odd_94 : decode cX6_odd 94 = .ok (.iload 5, 2) := by decide +kernel
theorem dX6_odd_96 : decode cX6_odd 96 = .ok (.aload_n 0, 1) := by decide +kernel
theorem dX6_odd_97 : decode cX6_odd 97 = .ok (.getfield 17, 3) := by decide +kernel
theorem dX6_odd_100 : decode cX6_odd 100 = .ok (.iload_n 1, 1) := by decide +kernel
theorem dX6_odd_101 : decode cX6_odd 101 = .ok (.iload 6, 2) := by decide +kernel
theorem dX6_odd_103 : decode cX6_odd 103 = .ok (.invokestatic 119, 3) := by decide +kernel
theorem dX6_odd_106 : decode cX6_odd 106 = .ok (.iconst 5, 1) := by decide +kernel
theorem dX6_odd_107 : decode cX6_odd 107 = .ok (.iadd, 1) := by decide +kernel
theorem dX6_odd_108 : decode cX6_odd 108 = .ok (.iaload, 1) := by decide +kernel
theorem dX6_odd_109 : decode cX6_odd 109 = .ok (.iload_n 2, 1) := by decide +kernel
theorem dX6_odd_110 : decode cX6_odd 110 = .ok (.if_icmp .ne 7, 3) := by decide +kernel
theorem dX6_odd_113 : decode cX6_odd 113 = .ok (.iconst 1, 1) := by decide +kernel
theorem dX6_odd_114 : decode cX6_odd 114 = .ok (.goto 4, 3) := by decide +kernel
theorem dX6_odd_117 : decode cX6_odd 117 = .ok (.iconst 0, 1) := by decide +kernel
theorem dX6_odd_118 : decode cX6_odd 118 = .ok (.iadd, 1) := by decide +kernel
theorem dX6_odd_119 : decode cX6_odd 119 = .ok (.istore 5, 2) := by decide +kernel
theorem dX6_odd_121 : decode cX6_odd 121 = .ok (.iinc 6 1, 3) := by decide +kernel
theorem dX6_odd_124 : decode cX6_odd 124 = .ok (.goto (-37), 3) := by decide +kernel
theorem dX6_odd_127 : decode cX6_odd 127 = .ok (.lconst 0, 1) := by decide +kernel
theorem dX6_odd_128 : decode cX6_odd 128 = .ok (.lstore 6, 2) := by decide +kernel
theorem dX6_odd_130 : decode cX6_odd 130 = .ok (.iload 5, 2) := by decide +kernel
theorem dX6_odd_132 : decode cX6_odd 132 = .ok (.istore 8, 2) := by decide +kernel
theorem dX6_odd_134 : decode cX6_odd 134 = .ok (.iload 8, 2) := by decide +kernel
theorem dX6_odd_136 : decode cX6_odd 136 = .ok (.iload 4, 2) := by decide +kernel
theorem dX6_odd_138 : decode cX6_odd 138 = .ok (.if_icmp .gt 34, 3) := by decide +kernel
theorem dX6_odd_141 : decode cX6_odd 141 = .ok (.lload 6, 2) := by decide +kernel
theorem dX6_odd_143 : decode cX6_odd 143 = .ok (.iload 4, 2) := by decide +kernel
theorem dX6_odd_145 : decode cX6_odd 145 = .ok (.iload 8, 2) := by decide +kernel
theorem dX6_odd_147 : decode cX6_odd 147 = .ok (.invokestatic 278, 3) := by decide +kernel
theorem dX6_odd_150 : decode cX6_odd 150 = .ok (.aload_n 0, 1) := by decide +kernel
theorem dX6_odd_151 : decode cX6_odd 151 = .ok (.getfield 109, 3) := by decide +kernel
theorem dX6_odd_154 : decode cX6_odd 154 = .ok (.iload 4, 2) := by decide +kernel
theorem dX6_odd_156 : decode cX6_odd 156 = .ok (.iload 8, 2) := by decide +kernel
theorem dX6_odd_158 : decode cX6_odd 158 = .ok (.isub, 1) := by decide +kernel
theorem dX6_odd_159 : decode cX6_odd 159 = .ok (.invokestatic 274, 3) := by decide +kernel
theorem dX6_odd_162 : decode cX6_odd 162 = .ok (.lmul, 1) := by decide +kernel
theorem dX6_odd_163 : decode cX6_odd 163 = .ok (.ladd, 1) := by decide +kernel
theorem dX6_odd_164 : decode cX6_odd 164 = .ok (.lstore 6, 2) := by decide +kernel
