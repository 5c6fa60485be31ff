theorem dX6_does_205 : decode cX6_does 205 = .ok (.iload 5, 2) := by decide +kernel
theorem dX6_does_207 : decode cX6_does 207 = .ok (.baload, 1) := by decide +kernel
theorem dX6_does_208 : decode cX6_does 208 = .ok (.ifCond .eq 20, 3) := by decide +kernel
theorem dX6_does_211 : decode cX6_does 211 = .ok (.aload_n 0, 1) := by decide +kernel
theorem dX6_does_212 : decode cX6_does 212 = .ok (.iload 5, 2) := by decide +kernel
theorem dX6_does_214 : decode cX6_does 214 = .ok (.invokevirtual 145, 3) := by decide +kernel
theorem dX6_does_217 : decode cX6_does 217 = .ok (.goto 11, 3) := by decide +kernel
theorem dX6_does_220 : decode cX6_does 220 = .ok (.aload_n 0, 1) := by decide +kernel
theorem dX6_does_221 : decode cX6_does 221 = .ok (.iload 5, 2) := by decide +kernel
theorem dX6_does_223 : decode cX6_does 223 = .ok (.iload 4, 2) := by decide +kernel
theorem dX6_does_225 : decode cX6_does 225 = .ok (.invokevirtual 149, 3) := by decide +kernel
theorem dX6_does_228 : decode cX6_does 228 = .ok (.return_, 1) := by decide +kernel
theorem dX6_tells_0 : decode cX6_tells 0 = .ok (.aload_n 0, 1) := by decide +kernel
theorem dX6_tells_1 : decode cX6_tells 1 = .ok (.invokevirtual 153, 3) := by decide +kernel
theorem dX6_tells_4 : decode cX6_tells 4 = .ok (.aload_n 0, 1) := by decide +kernel
theorem dX6_tells_5 : decode cX6_tells 5 = .ok (.invokevirtual 123, 3) := by decide +kernel
theorem dX6_tells_8 : decode cX6_tells 8 = .ok (.iconst 0, 1) := by decide +kernel
theorem dX6_tells_9 : decode cX6_tells 9 = .ok (.istore_n 1, 1) := by decide +kernel
theorem dX6_tells_10 : decode cX6_tells 10 = .ok (.iload_n 1, 1) := by decide +kernel
theorem dX6_tells_11 : decode cX6_tells 11 = .ok (.bipush 12, 2) := by decide +kernel
theorem dX6_tells_13 : decode cX6_tells 13 = .ok (.if_icmp .ge 75, 3) := by decide +kernel
theorem dX6_tells_16 : decode cX6_tells 16 = .ok (.aload_n 0, 1) := by decide +kernel
theorem dX6_tells_17 : decode cX6_tells 17 = .ok (.getfield 42, 3) := by decide +kernel
theorem dX6_tells_20 : decode cX6_tells 20 = .ok (.iload_n 1, 1) := by decide +kernel
theorem dX6_tells_21 : decode cX6_tells 21 = .ok (.iload_n 1, 1) := by decide +kernel
theorem dX6_tells_22 : decode cX6_tells 22 = .ok (.ifCond .ne 7, 3) := by decide +kernel
theorem dX6_tells_25 : decode cX6_tells 25 = .ok (.iconst 1, 1) := by decide +kernel
theorem dX6_tells_26 : decode cX6_tells 26 = .ok (.goto 4, 3) := by decide +kernel
theorem dX6_tells_29 : decode cX6_tells 29 = .ok (.iconst 0, 1) := by decide +kernel
theorem dX6_tells_30 : decode cX6_tells 30 = .ok (.bastore, 1) := by decide +kernel
theorem dX6_tells_31 : decode cX6_tells 31 = .ok (.aload_n 0, 1) := by decide +kernel
theorem dX6_tells_32 : decode cX6_tells 32 = .ok (.getfield 46, 3) := by decide +kernel
theorem dX6_tells_35 : decode cX6_tells 35 = .ok (.iload_n 1, 1) := by decide +kernel
theorem dX6_tells_36 : decode cX6_tells 36 = .ok (.iload_n 1, 1) := by decide +kernel
theorem dX6_tells_37 : decode cX6_tells 37 = .ok (.ifCond .ne 7, 3) := by decide +kernel
theorem dX6_tells_40 : decode cX6_tells 40 = .ok (.iconst 1, 1) := by decide +kernel
theorem dX6_tells_41 : decode cX6_tells 41 = .ok (.goto 4, 3) := by decide +kernel
theorem dX6_tells_44 : decode cX6_tells 44 = .ok (.iconst 0, 1) := by decide +kernel
theorem dX6_tells_45 : decode cX6_tells 45 = .ok (.bastore, 1) := by decide +kernel
theorem dX6_tells_46 : decode cX6_tells 46 = .ok (.aload_n 0, 1) := by decide +kernel
theorem dX6_tells_47 : decode cX6_tells 47 = .ok (.getfield 49, 3) := by decide +kernel
theorem dX6_tells_50 : decode cX6_tells 50 = .ok (.iload_n 1, 1) := by decide +kernel
theorem dX6_tells_51 : decode cX6_tells 51 = .ok (.iload_n 1, 1) := by decide +kernel
theorem dX6_tells_52 : decode cX6_tells 52 = .ok (.ifCond .ne 7, 3) := by decide +kernel
theorem dX6_tells_55 : decode cX6_tells 55 = .ok (.iconst 2, 1) := by decide +kernel
theorem dX6_tells_56 : decode cX6_tells 56 = .ok (.goto 4, 3) := by decide +kernel
theorem dX6_tells_59 : decode cX6_tells 59 = .ok (.iconst 0, 1) := by decide +kernel
theorem dX6_tells_60 : decode cX6_tells 60 = .ok (.iastore, 1) := by decide +kernel
theorem dX6_tells_61 : decode cX6_tells 61 = .ok (.aload_n 0, 1) := by decide +kernel
theorem dX6_tells_62 : decode cX6_tells 62 = .ok (.getfield 52, 3) := by decide +kernel
theorem dX6_tells_65 : decode cX6_tells 65 = .ok (.iload_n 1, 1) := by decide +kernel
theorem dX6_tells_66 : decode cX6_tells 66 = .ok (.iconst 0, 1) := by decide +kernel
theorem dX6_tells_67 : decode cX6_tells 67 = .ok (.iastore, 1) := by decide +kernel
theorem dX6_tells_68 : decode cX6_tells 68 = .ok (.aload_n 0, 1) := by decide +kernel
theorem dX6_tells_69 : decode cX6_tells 69 = .ok (.getfield 55, 3) := by decide +kernel
theorem dX6_tells_72 : decode cX6_tells 72 = .ok (.iload_n 1, 1) := by decide +kernel
theorem dX6_tells_73 : decode cX6_tells 73 = .ok (.iconst 0, 1) := by decide +kernel
theorem dX6_tells_74 : decode cX6_tells 74 = .ok (.iastore, 1) := by decide +kernel
theorem dX6_tells_75 : decode cX6_tells 75 = .ok (.aload_n 0, 1) := by decide +kernel
theorem dX6_tells_76 : decode cX6_tells 76 = .ok (.getfield 64, 3) := by decide +kernel
theorem dX6_tells_79 : decode cX6_tells 79 = .ok (.iload_n 1, 1) := by decide +kernel
theorem dX6_tells_80 : decode cX6_tells 80 = .ok (.iconst 0, 1) := by decide +kernel
theorem dX6_tells_81 : decode cX6_tells 81 = .ok (.iastore, 1) := by decide +kernel
theorem dX6_tells_82 : decode cX6_tells 82 = .ok (.iinc 1 1, 3) := by decide +kernel
theorem dX6_tells_85 : decode cX6_tells 85 = .ok (.goto (-75), 3) := by decide +kernel
theorem dX6_tells_88 : decode cX6_tells 88 = .ok (.iconst 0, 1) := by decide +kernel
theorem dX6_tells_89 : decode cX6_tells 89 = .ok (.istore_n 1, 1) := by decide +kernel
theorem dX6_tells_90 : decode cX6_tells 90 = .ok (.aload_n 0, 1) := by decide +kernel
theorem dX6_tells_91 : decode cX6_tells 91 = .ok (.aload_n 0, 1) := by decide +kernel
theorem dX6_tells_92 : decode cX6_tells 92 = .ok (.getfield 39, 3) := by decide +kernel
theorem dX6_tells_95 : decode cX6_tells 95 = .ok (.invokevirtual 126, 3) := by decide +kernel
theorem dX6_tells_98 : decode cX6_tells 98 = .ok (.istore_n 2, 1) := by decide +kernel
theorem dX6_tells_99 : decode cX6_tells 99 = .ok (.iload_n 2, 1) := by decide +kernel
theorem dX6_tells_100 : decode cX6_tells 100 = .ok (.bipush (-9), 2) := by decide +kernel
theorem dX6_tells_102 : decode cX6_tells 102 = .ok (.if_icmp .eq 55, 3) := by decide +kernel
theorem dX6_tells_105 : decode cX6_tells 105 = .ok (.aload_n 0, 1) := by decide +kernel
theorem dX6_tells_106 : decode cX6_tells 106 = .ok (.getfield 36, 3) := by decide +kernel
theorem dX6_tells_109 : decode cX6_tells 109 = .ok (.iload_n 2, 1) := by decide +kernel
theorem dX6_tells_110 : decode cX6_tells 110 = .ok (.iaload, 1) := by decide +kernel
theorem dX6_tells_111 : decode cX6_tells 111 = .ok (.aload_n 0, 1) := by decide +kernel
theorem dX6_tells_112 : decode cX6_tells 112 = .ok (.getfield 33, 3) := by decide +kernel
theorem dX6_tells_115 : decode cX6_tells 115 = .ok (.iload_n 2, 1) := by decide +kernel
theorem dX6_tells_116 : decode cX6_tells 116 = .ok (.iaload, 1) := by decide +kernel
theorem dX6_tells_117 : decode cX6_tells 117 = .ok (.if_icmp .ge 15, 3) := by decide +kernel
theorem dX6_tells_120 : decode cX6_tells 120 = .ok (.aload_n 0, 1) := by decide +kernel
theorem dX6_tells_121 : decode cX6_tells 121 = .ok (.iload_n 2, 1) := by decide +kernel
theorem dX6_tells_122 : decode cX6_tells 122 = .ok (.aload_n 0, 1) := by decide +kernel
theorem dX6_tells_123 : decode cX6_tells 123 = .ok (.getfield 36, 3) := by decide +kernel
theorem dX6_tells_126 : decode cX6_tells 126 = .ok (.iload_n 2, 1) := by decide +kernel
theorem dX6_tells_127 : decode cX6_tells 127 = .ok (.iaload, 1) := by decide +kernel
theorem dX6_tells_128 : decode cX6_tells 128 = .ok (.iload_n 1, 1) := by decide +kernel
theorem dX6_tells_129 : decode cX6_tells 129 = .ok (.invokevirtual 156, 3) := by decide +kernel
theorem dX6_tells_132 : decode cX6_tells 132 = .ok (.iinc 1 1, 3) := by decide +kernel
theorem dX6_tells_135 : decode cX6_tells 135 = .ok (.aload_n 0, 1) := by decide +kernel
theorem dX6_tells_136 : decode cX6_tells 136 = .ok (.getfield 36, 3) := by decide +kernel
theorem dX6_tells_139 : decode cX6_tells 139 = .ok (.iload_n 2, 1) := by decide +kernel
theorem dX6_tells_140 : decode cX6_tells 140 = .ok (.dup2, 1) := by decide +kernel
theorem dX6_tells_141 : decode cX6_tells 141 = .ok (.iaload, 1) := by decide +kernel
theorem dX6_tells_142 : decode cX6_tells 142 = .ok (.iconst 1, 1) := by decide +kernel
theorem dX6_tells_143 : decode cX6_tells 143 = .ok (.iadd, 1) := by decide +kernel
theorem dX6_tells_144 : decode cX6_tells 144 = .ok (.iastore, 1) := by decide +kernel
theorem dX6_tells_145 : decode cX6_tells 145 = .ok (.aload_n 0, 1) := by decide +kernel
theorem dX6_tells_146 : decode cX6_tells 146 = .ok (.aload_n 0, 1) := by decide +kernel
theorem dX6_tells_147 : decode cX6_tells 147 = .ok (.getfield 39, 3) := by decide +kernel
theorem dX6_tells_150 : decode cX6_tells 150 = .ok (.invokevirtual 126, 3) := by decide +kernel
theorem dX6_tells_153 : decode cX6_tells 153 = .ok (.istore_n 2, 1) := by decide +kernel
theorem dX6_tells_154 : decode cX6_tells 154 = .ok (.goto (-55), 3) := by decide +kernel
theorem dX6_tells_157 : decode cX6_tells 157 = .ok (.aload_n 0, 1) := by decide +kernel
theorem dX6_tells_158 : decode cX6_tells 158 = .ok (.invokevirtual 160, 3) := by decide +kernel
theorem dX6_tells_161 : decode cX6_tells 161 = .ok (.return_, 1) := by decide +kernel
theorem dX6_isAhead_0 : decode cX6_isAhead 0 = .ok (.aload_n 0, 1) := by decide +kernel
theorem dX6_isAhead_1 : decode cX6_isAhead 1 = .ok (.getfield 134, 3) := by decide +kernel
theorem dX6_isAhead_4 : decode cX6_isAhead 4 = .ok (.iconst 2, 1) := by decide +kernel
theorem dX6_isAhead_5 : decode cX6_isAhead 5 = .ok (.iand, 1) := by decide +kernel
theorem dX6_isAhead_6 : decode cX6_isAhead 6 = .ok (.ifCond .ne 26, 3) := by decide +kernel
theorem dX6_isAhead_9 : decode cX6_isAhead 9 = .ok (.aload_n 0, 1) := by decide +kernel
theorem dX6_isAhead_10 : decode cX6_isAhead 10 = .ok (.getfield 58, 3) := by decide +kernel
theorem dX6_isAhead_13 : decode cX6_isAhead 13 = .ok (.iload_n 1, 1) := by decide +kernel
theorem dX6_isAhead_14 : decode cX6_isAhead 14 = .ok (.iaload, 1) := by decide +kernel
theorem dX6_isAhead_15 : decode cX6_isAhead 15 = .ok (.aload_n 0, 1) := by decide +kernel
theorem dX6_isAhead_16 : decode cX6_isAhead 16 = .ok (.getfield 58, 3) := by decide +kernel
theorem dX6_isAhead_19 : decode cX6_isAhead 19 = .ok (.iload_n 2, 1) := by decide +kernel
theorem dX6_isAhead_20 : decode cX6_isAhead 20 = .ok (.iaload, 1) := by decide +kernel
theorem dX6_isAhead_21 : decode cX6_isAhead 21 = .ok (.if_icmp .le 7, 3) := by decide +kernel
theorem dX6_isAhead_24 : decode cX6_isAhead 24 = .ok (.iconst 1, 1) := by decide +kernel
theorem dX6_isAhead_25 : decode cX6_isAhead 25 = .ok (.goto 27, 3) := by decide +kernel
theorem dX6_isAhead_28 : decode cX6_isAhead 28 = .ok (.iconst 0, 1) := by decide +kernel
theorem dX6_isAhead_29 : decode cX6_isAhead 29 = .ok (.goto 23, 3) := by decide +kernel
theorem dX6_isAhead_32 : decode cX6_isAhead 32 = .ok (.aload_n 0, 1) := by decide +kernel
theorem dX6_isAhead_33 : decode cX6_isAhead 33 = .ok (.getfield 58, 3) := by decide +kernel
theorem dX6_isAhead_36 : decode cX6_isAhead 36 = .ok (.iload_n 1, 1) := by decide +kernel
theorem dX6_isAhead_37 : decode cX6_isAhead 37 = .ok (.iaload, 1) := by decide +kernel
theorem dX6_isAhead_38 : decode cX6_isAhead 38 = .ok (.aload_n 0, 1) := by decide +kernel
theorem dX6_isAhead_39 : decode cX6_isAhead 39 = .ok (.getfield 58, 3) := by decide +kernel
theorem dX6_isAhead_42 : decode cX6_isAhead 42 = .ok (.iload_n 2, 1) := by decide +kernel
theorem dX6_isAhead_43 : decode cX6_isAhead 43 = .ok (.iaload, 1) := by decide +kernel
theorem dX6_isAhead_44 : decode cX6_isAhead 44 = .ok (.if_icmp .ge 7, 3) := by decide +kernel
theorem dX6_isAhead_47 : decode cX6_isAhead 47 = .ok (.iconst 1, 1) := by decide +kernel
theorem dX6_isAhead_48 : decode cX6_isAhead 48 = .ok (.goto 4, 3) := by decide +kernel
theorem dX6_isAhead_51 : decode cX6_isAhead 51 = .ok (.iconst 0, 1) := by decide +kernel
theorem dX6_isAhead_52 : decode cX6_isAhead 52 = .ok (.ireturn, 1) := by decide +kernel
theorem dX6_names_0 : decode cX6_names 0 = .ok (.iconst 0, 1) := by decide +kernel
theorem dX6_names_1 : decode cX6_names 1 = .ok (.istore_n 1, 1) := by decide +kernel
theorem dX6_names_2 : decode cX6_names 2 = .ok (.iload_n 1, 1) := by decide +kernel
theorem dX6_names_3 : decode cX6_names 3 = .ok (.bipush 12, 2) := by decide +kernel
theorem dX6_names_5 : decode cX6_names 5 = .ok (.if_icmp .ge 111, 3) := by decide +kernel
theorem dX6_names_8 : decode cX6_names 8 = .ok (.iconst 1, 1) := by decide +kernel
theorem dX6_names_9 : decode cX6_names 9 = .ok (.istore_n 2, 1) := by decide +kernel
theorem dX6_names_10 : decode cX6_names 10 = .ok (.iconst 1, 1) := by decide +kernel
theorem dX6_names_11 : decode cX6_names 11 = .ok (.istore_n 3, 1) := by decide +kernel
theorem dX6_names_12 : decode cX6_names 12 = .ok (.iload_n 3, 1) := by decide +kernel
theorem dX6_names_13 : decode cX6_names 13 = .ok (.bipush 12, 2) := by decide +kernel
theorem dX6_names_15 : decode cX6_names 15 = .ok (.if_icmp .ge 74, 3) := by decide +kernel
theorem dX6_names_18 : decode cX6_names 18 = .ok (.iload_n 1, 1) := by decide +kernel
theorem dX6_names_19 : decode cX6_names 19 = .ok (.ifCond .le 70, 3) := by decide +kernel
theorem dX6_names_22 : decode cX6_names 22 = .ok (.iload_n 2, 1) := by decide +kernel
theorem dX6_names_23 : decode cX6_names 23 = .ok (.iload_n 3, 1) := by decide +kernel
theorem dX6_names_24 : decode cX6_names 24 = .ok (.iload_n 1, 1) := by decide +kernel
theorem dX6_names_25 : decode cX6_names 25 = .ok (.if_icmp .eq 51, 3) := by decide +kernel
theorem dX6_names_28 : decode cX6_names 28 = .ok (.aload_n 0, 1) := by decide +kernel
theorem dX6_names_29 : decode cX6_names 29 = .ok (.getfield 46, 3) := by decide +kernel
theorem dX6_names_32 : decode cX6_names 32 = .ok (.iload_n 3, 1) := by decide +kernel
theorem dX6_names_33 : decode cX6_names 33 = .ok (.baload, 1) := by decide +kernel
theorem dX6_names_34 : decode cX6_names 34 = .ok (.ifCond .eq 42, 3) := by decide +kernel
theorem dX6_names_37 : decode cX6_names 37 = .ok (.aload_n 0, 1) := by decide +kernel
theorem dX6_names_38 : decode cX6_names 38 = .ok (.getfield 52, 3) := by decide +kernel
theorem dX6_names_41 : decode cX6_names 41 = .ok (.iload_n 3, 1) := by decide +kernel
theorem dX6_names_42 : decode cX6_names 42 = .ok (.iaload, 1) := by decide +kernel
theorem dX6_names_43 : decode cX6_names 43 = .ok (.aload_n 0, 1) := by decide +kernel
theorem dX6_names_44 : decode cX6_names 44 = .ok (.getfield 52, 3) := by decide +kernel
theorem dX6_names_47 : decode cX6_names 47 = .ok (.iload_n 1, 1) := by decide +kernel
theorem dX6_names_48 : decode cX6_names 48 = .ok (.iaload, 1) := by decide +kernel
theorem dX6_names_49 : decode cX6_names 49 = .ok (.if_icmp .ne 27, 3) := by decide +kernel
theorem dX6_names_52 : decode cX6_names 52 = .ok (.aload_n 0, 1) := by decide +kernel
theorem dX6_names_53 : decode cX6_names 53 = .ok (.getfield 55, 3) := by decide +kernel
theorem dX6_names_56 : decode cX6_names 56 = .ok (.iload_n 3, 1) := by decide +kernel
theorem dX6_names_57 : decode cX6_names 57 = .ok (.iaload, 1) := by decide +kernel
theorem dX6_names_58 : decode cX6_names 58 = .ok (.aload_n 0, 1) := by decide +kernel
theorem dX6_names_59 : decode cX6_names 59 = .ok (.getfield 55, 3) := by decide +kernel
theorem dX6_names_62 : decode cX6_names 62 = .ok (.iload_n 1, 1) := by decide +kernel
theorem dX6_names_63 : decode cX6_names 63 = .ok (.iaload, 1) := by decide +kernel
theorem dX6_names_64 : decode cX6_names 64 = .ok (.if_icmp .ne 12, 3) := by decide +kernel
theorem dX6_names_67 : decode cX6_names 67 = .ok (.aload_n 0, 1) := by decide +kernel
theorem dX6_names_68 : decode cX6_names 68 = .ok (.iload_n 1, 1) := by decide +kernel
theorem dX6_names_69 : decode cX6_names 69 = .ok (.iload_n 3, 1) := by decide +kernel
theorem dX6_names_70 : decode cX6_names 70 = .ok (.invokevirtual 163, 3) := by decide +kernel
theorem dX6_names_73 : decode cX6_names 73 = .ok (.ifCond .eq 7, 3) := by decide +kernel
theorem dX6_names_76 : decode cX6_names 76 = .ok (.iconst 1, 1) := by decide +kernel
theorem dX6_names_77 : decode cX6_names 77 = .ok (.goto 4, 3) := by decide +kernel
theorem dX6_names_80 : decode cX6_names 80 = .ok (.iconst 0, 1) := by decide +kernel
theorem dX6_names_81 : decode cX6_names 81 = .ok (.iand, 1) := by decide +kernel
theorem dX6_names_82 : decode cX6_names 82 = .ok (.istore_n 2, 1) := by decide +kernel
theorem dX6_names_83 : decode cX6_names 83 = .ok (.iinc 3 1, 3) := by decide +kernel
theorem dX6_names_86 : decode cX6_names 86 = .ok (.goto (-74), 3) := by decide +kernel
theorem dX6_names_89 : decode cX6_names 89 = .ok (.aload_n 0, 1) := by decide +kernel
theorem dX6_names_90 : decode cX6_names 90 = .ok (.getfield 61, 3) := by decide +kernel
theorem dX6_names_93 : decode cX6_names 93 = .ok (.iload_n 1, 1) := by decide +kernel
theorem dX6_names_94 : decode cX6_names 94 = .ok (.iload_n 2, 1) := by decide +kernel
theorem dX6_names_95 : decode cX6_names 95 = .ok (.ifCond .eq 12, 3) := by decide +kernel
theorem dX6_names_98 : decode cX6_names 98 = .ok (.aload_n 0, 1) := by decide +kernel
theorem dX6_names_99 : decode cX6_names 99 = .ok (.getfield 55, 3) := by decide +kernel
theorem dX6_names_102 : decode cX6_names 102 = .ok (.iload_n 1, 1) := by decide +kernel
theorem dX6_names_103 : decode cX6_names 103 = .ok (.iaload, 1) := by decide +kernel
theorem dX6_names_104 : decode cX6_names 104 = .ok (.goto 5, 3) := by decide +kernel
theorem dX6_names_107 : decode cX6_names 107 = .ok (.bipush (-9), 2) := by decide +kernel
theorem dX6_names_109 : decode cX6_names 109 = .ok (.iastore, 1) := by decide +kernel
theorem dX6_names_110 : decode cX6_names 110 = .ok (.iinc 1 1, 3) := by decide +kernel
theorem dX6_names_113 : decode cX6_names 113 = .ok (.goto (-111), 3) := by decide +kernel
theorem dX6_names_116 : decode cX6_names 116 = .ok (.aload_n 0, 1) := by decide +kernel
theorem dX6_names_117 : decode cX6_names 117 = .ok (.invokevirtual 166, 3) := by decide +kernel
theorem dX6_names_120 : decode cX6_names 120 = .ok (.istore_n 1, 1) := by decide +kernel
theorem dX6_names_121 : decode cX6_names 121 = .ok (.iload_n 1, 1) := by decide +kernel
theorem dX6_names_122 : decode cX6_names 122 = .ok (.bipush (-9), 2) := by decide +kernel
theorem dX6_names_124 : decode cX6_names 124 = .ok (.if_icmp .eq 41, 3) := by decide +kernel
theorem dX6_names_127 : decode cX6_names 127 = .ok (.bipush 10, 2) := by decide +kernel
theorem dX6_names_129 : decode cX6_names 129 = .ok (.istore_n 2, 1) := by decide +kernel
theorem dX6_names_130 : decode cX6_names 130 = .ok (.aload_n 0, 1) := by decide +kernel
theorem dX6_names_131 : decode cX6_names 131 = .ok (.aload_n 0, 1) := by decide +kernel
theorem dX6_names_132 : decode cX6_names 132 = .ok (.getfield 52, 3) := by decide +kernel
theorem dX6_names_135 : decode cX6_names 135 = .ok (.iload_n 1, 1) := by decide +kernel
theorem dX6_names_136 : decode cX6_names 136 = .ok (.iaload, 1) := by decide +kernel
theorem dX6_names_137 : decode cX6_names 137 = .ok (.iload_n 2, 1) := by decide +kernel
theorem dX6_names_138 : decode cX6_names 138 = .ok (.invokevirtual 170, 3) := by decide +kernel
theorem dX6_names_141 : decode cX6_names 141 = .ok (.ifCond .eq 9, 3) := by decide +kernel
theorem dX6_names_144 : decode cX6_names 144 = .ok (.iinc 2 1, 3) := by decide +kernel
theorem dX6_names_147 : decode cX6_names 147 = .ok (.goto (-17), 3) := by decide +kernel
theorem dX6_names_150 : decode cX6_names 150 = .ok (.aload_n 0, 1) := by decide +kernel
theorem dX6_names_151 : decode cX6_names 151 = .ok (.getfield 61, 3) := by decide +kernel
theorem dX6_names_154 : decode cX6_names 154 = .ok (.iload_n 1, 1) := by decide +kernel
theorem dX6_names_155 : decode cX6_names 155 = .ok (.iload_n 2, 1) := by decide +kernel
theorem dX6_names_156 : decode cX6_names 156 = .ok (.iastore, 1) := by decide +kernel
theorem dX6_names_157 : decode cX6_names 157 = .ok (.aload_n 0, 1) := by decide +kernel
theorem dX6_names_158 : decode cX6_names 158 = .ok (.invokevirtual 166, 3) := by decide +kernel
theorem dX6_names_161 : decode cX6_names 161 = .ok (.istore_n 1, 1) := by decide +kernel
theorem dX6_names_162 : decode cX6_names 162 = .ok (.goto (-41), 3) := by decide +kernel
theorem dX6_names_165 : decode cX6_names 165 = .ok (.return_, 1) := by decide +kernel
theorem dX6_nextNameless_0 : decode cX6_nextNameless 0 = .ok (.bipush (-9), 2) := by decide +kernel
theorem dX6_nextNameless_2 : decode cX6_nextNameless 2 = .ok (.istore_n 1, 1) := by decide +kernel
theorem dX6_nextNameless_3 : decode cX6_nextNameless 3 = .ok (.iconst 1, 1) := by decide +kernel
theorem dX6_nextNameless_4 : decode cX6_nextNameless 4 = .ok (.istore_n 2, 1) := by decide +kernel
theorem dX6_nextNameless_5 : decode cX6_nextNameless 5 = .ok (.iload_n 2, 1) := by decide +kernel
theorem dX6_nextNameless_6 : decode cX6_nextNameless 6 = .ok (.bipush 12, 2) := by decide +kernel
theorem dX6_nextNameless_8 : decode cX6_nextNameless 8 = .ok (.if_icmp .ge 50, 3) := by decide +kernel
theorem dX6_nextNameless_11 : decode cX6_nextNameless 11 = .ok (.aload_n 0, 1) := by decide +kernel
theorem dX6_nextNameless_12 : decode cX6_nextNameless 12 = .ok (.getfield 46, 3) := by decide +kernel
theorem dX6_nextNameless_15 : decode cX6_nextNameless 15 = .ok (.iload_n 2, 1) := by decide +kernel
theorem dX6_nextNameless_16 : decode cX6_nextNameless 16 = .ok (.baload, 1) := by decide +kernel
theorem dX6_nextNameless_17 : decode cX6_nextNameless 17 = .ok (.ifCond .eq 33, 3) := by decide +kernel
theorem dX6_nextNameless_20 : decode cX6_nextNameless 20 = .ok (.aload_n 0, 1) := by decide +kernel
theorem dX6_nextNameless_21 : decode cX6_nextNameless 21 = .ok (.getfield 61, 3) := by decide +kernel
theorem dX6_nextNameless_24 : decode cX6_nextNameless 24 = .ok (.iload_n 2, 1) := by decide +kernel
theorem dX6_nextNameless_25 : decode cX6_nextNameless 25 = .ok (.iaload, 1) := by decide +kernel
theorem dX6_nextNameless_26 : decode cX6_nextNameless 26 = .ok (.bipush (-9), 2) := by decide +kernel
theorem dX6_nextNameless_28 : decode cX6_nextNameless 28 = .ok (.if_icmp .ne 22, 3) := by decide +kernel
theorem dX6_nextNameless_31 : decode cX6_nextNameless 31 = .ok (.iload_n 1, 1) := by decide +kernel
theorem dX6_nextNameless_32 : decode cX6_nextNameless 32 = .ok (.bipush (-9), 2) := by decide +kernel
theorem dX6_nextNameless_34 : decode cX6_nextNameless 34 = .ok (.if_icmp .eq 12, 3) := by decide +kernel
theorem dX6_nextNameless_37 : decode cX6_nextNameless 37 = .ok (.aload_n 0, 1) := by decide +kernel
theorem dX6_nextNameless_38 : decode cX6_nextNameless 38 = .ok (.iload_n 2, 1) := by decide +kernel
theorem dX6_nextNameless_39 : decode cX6_nextNameless 39 = .ok (.iload_n 1, 1) := by decide +kernel
theorem dX6_nextNameless_40 : decode cX6_nextNameless 40 = .ok (.invokevirtual 163, 3) := by decide +kernel
theorem dX6_nextNameless_43 : decode cX6_nextNameless 43 = .ok (.ifCond .eq 7, 3) := by decide +kernel
theorem dX6_nextNameless_46 : decode cX6_nextNameless 46 = .ok (.iload_n 2, 1) := by decide +kernel
theorem dX6_nextNameless_47 : decode cX6_nextNameless 47 = .ok (.goto 4, 3) := by decide +kernel
theorem dX6_nextNameless_50 : decode cX6_nextNameless 50 = .ok (.iload_n 1, 1) := by decide +kernel
theorem dX6_nextNameless_51 : decode cX6_nextNameless 51 = .ok (.istore_n 1, 1) := by decide +kernel
theorem dX6_nextNameless_52 : decode cX6_nextNameless 52 = .ok (.iinc 2 1, 3) := by decide +kernel
theorem dX6_nextNameless_55 : decode cX6_nextNameless 55 = .ok (.goto (-50), 3) := by decide +kernel
theorem dX6_nextNameless_58 : decode cX6_nextNameless 58 = .ok (.iload_n 1, 1) := by decide +kernel
theorem dX6_nextNameless_59 : decode cX6_nextNameless 59 = .ok (.ireturn, 1) := by decide +kernel
theorem dX6_isTaken_0 : decode cX6_isTaken 0 = .ok (.iconst 0, 1) := by decide +kernel
theorem dX6_isTaken_1 : decode cX6_isTaken 1 = .ok (.istore_n 3, 1) := by decide +kernel
theorem dX6_isTaken_2 : decode cX6_isTaken 2 = .ok (.iconst 1, 1) := by decide +kernel
theorem dX6_isTaken_3 : decode cX6_isTaken 3 = .ok (.istore 4, 2) := by decide +kernel
theorem dX6_isTaken_5 : decode cX6_isTaken 5 = .ok (.iload 4, 2) := by decide +kernel
theorem dX6_isTaken_7 : decode cX6_isTaken 7 = .ok (.bipush 12, 2) := by decide +kernel
theorem dX6_isTaken_9 : decode cX6_isTaken 9 = .ok (.if_icmp .ge 49, 3) := by decide +kernel
theorem dX6_isTaken_12 : decode cX6_isTaken 12 = .ok (.iload_n 3, 1) := by decide +kernel
theorem dX6_isTaken_13 : decode cX6_isTaken 13 = .ok (.aload_n 0, 1) := by decide +kernel
theorem dX6_isTaken_14 : decode cX6_isTaken 14 = .ok (.getfield 46, 3) := by decide +kernel
theorem dX6_isTaken_17 : decode cX6_isTaken 17 = .ok (.iload 4, 2) := by decide +kernel
theorem dX6_isTaken_19 : decode cX6_isTaken 19 = .ok (.baload, 1) := by decide +kernel
theorem dX6_isTaken_20 : decode cX6_isTaken 20 = .ok (.ifCond .eq 29, 3) := by decide +kernel
theorem dX6_isTaken_23 : decode cX6_isTaken 23 = .ok (.aload_n 0, 1) := by decide +kernel
theorem dX6_isTaken_24 : decode cX6_isTaken 24 = .ok (.getfield 52, 3) := by decide +kernel
theorem dX6_isTaken_27 : decode cX6_isTaken 27 = .ok (.iload 4, 2) := by decide +kernel
theorem dX6_isTaken_29 : decode cX6_isTaken 29 = .ok (.iaload, 1) := by decide +kernel
theorem dX6_isTaken_30 : decode cX6_isTaken 30 = .ok (.iload_n 1, 1) := by decide +kernel
theorem dX6_isTaken_31 : decode cX6_isTaken 31 = .ok (.if_icmp .ne 18, 3) := by decide +kernel
theorem dX6_isTaken_34 : decode cX6_isTaken 34 = .ok (.aload_n 0, 1) := by decide +kernel
theorem dX6_isTaken_35 : decode cX6_isTaken 35 = .ok (.getfield 61, 3) := by decide +kernel
theorem dX6_isTaken_38 : decode cX6_isTaken 38 = .ok (.iload 4, 2) := by decide +kernel
theorem dX6_isTaken_40 : decode cX6_isTaken 40 = .ok (.iaload, 1) := by decide +kernel
theorem dX6_isTaken_41 : decode cX6_isTaken 41 = .ok (.iload_n 2, 1) := by decide +kernel
theorem dX6_isTaken_42 : decode cX6_isTaken 42 = .ok (.if_icmp .ne 7, 3) := by decide +kernel
theorem dX6_isTaken_45 : decode cX6_isTaken 45 = .ok (.iconst 1, 1) := by decide +kernel
theorem dX6_isTaken_46 : decode cX6_isTaken 46 = .ok (.goto 4, 3) := by decide +kernel
theorem dX6_isTaken_49 : decode cX6_isTaken 49 = .ok (.iconst 0, 1) := by decide +kernel
theorem dX6_isTaken_50 : decode cX6_isTaken 50 = .ok (.ior, 1) := by decide +kernel
theorem dX6_isTaken_51 : decode cX6_isTaken 51 = .ok (.istore_n 3, 1) := by decide +kernel
theorem dX6_isTaken_52 : decode cX6_isTaken 52 = .ok (.iinc 4 1, 3) := by decide +kernel
theorem dX6_isTaken_55 : decode cX6_isTaken 55 = .ok (.goto (-50), 3) := by decide +kernel
theorem dX6_isTaken_58 : decode cX6_isTaken 58 = .ok (.iload_n 3, 1) := by decide +kernel
theorem dX6_isTaken_59 : decode cX6_isTaken 59 = .ok (.ireturn, 1) := by decide +kernel
theorem dX6_tellsNow_0 : decode cX6_tellsNow 0 = .ok (.iconst 0, 1) := by decide +kernel
theorem dX6_tellsNow_1 : decode cX6_tellsNow 1 = .ok (.istore_n 2, 1) := by decide +kernel
theorem dX6_tellsNow_2 : decode cX6_tellsNow 2 = .ok (.iload_n 2, 1) := by decide +kernel
theorem dX6_tellsNow_3 : decode cX6_tellsNow 3 = .ok (.iconst 4, 1) := by decide +kernel
theorem dX6_tellsNow_4 : decode cX6_tellsNow 4 = .ok (.if_icmp .ge 25, 3) := by decide +kernel
theorem dX6_tellsNow_7 : decode cX6_tellsNow 7 = .ok (.aload_n 0, 1) := by decide +kernel
theorem dX6_tellsNow_8 : decode cX6_tellsNow 8 = .ok (.getfield 39, 3) := by decide +kernel
theorem dX6_tellsNow_11 : decode cX6_tellsNow 11 = .ok (.iload_n 2, 1) := by decide +kernel
theorem dX6_tellsNow_12 : decode cX6_tellsNow 12 = .ok (.aload_n 0, 1) := by decide +kernel
theorem dX6_tellsNow_13 : decode cX6_tellsNow 13 = .ok (.getfield 24, 3) := by decide +kernel
theorem dX6_tellsNow_16 : decode cX6_tellsNow 16 = .ok (.iconst 4, 1) := by decide +kernel
theorem dX6_tellsNow_17 : decode cX6_tellsNow 17 = .ok (.iload_n 1, 1) := by decide +kernel
theorem dX6_tellsNow_18 : decode cX6_tellsNow 18 = .ok (.imul, 1) := by decide +kernel
theorem dX6_tellsNow_19 : decode cX6_tellsNow 19 = .ok (.iload_n 2, 1) := by decide +kernel
theorem dX6_tellsNow_20 : decode cX6_tellsNow 20 = .ok (.iadd, 1) := by decide +kernel
theorem dX6_tellsNow_21 : decode cX6_tellsNow 21 = .ok (.iaload, 1) := by decide +kernel
theorem dX6_tellsNow_22 : decode cX6_tellsNow 22 = .ok (.iastore, 1) := by decide +kernel
theorem dX6_tellsNow_23 : decode cX6_tellsNow 23 = .ok (.iinc 2 1, 3) := by decide +kernel
theorem dX6_tellsNow_26 : decode cX6_tellsNow 26 = .ok (.goto (-24), 3) := by decide +kernel
theorem dX6_tellsNow_29 : decode cX6_tellsNow 29 = .ok (.aload_n 0, 1) := by decide +kernel
theorem dX6_tellsNow_30 : decode cX6_tellsNow 30 = .ok (.invokevirtual 173, 3) := by decide +kernel
theorem dX6_tellsNow_33 : decode cX6_tellsNow 33 = .ok (.return_, 1) := by decide +kernel
theorem dX6_tellsOf_0 : decode cX6_tellsOf 0 = .ok (.iload_n 2, 1) := by decide +kernel
theorem dX6_tellsOf_1 : decode cX6_tellsOf 1 = .ok (.aload_n 0, 1) := by decide +kernel
theorem dX6_tellsOf_2 : decode cX6_tellsOf 2 = .ok (.getfield 109, 3) := by decide +kernel
theorem dX6_tellsOf_5 : decode cX6_tellsOf 5 = .ok (.if_icmp .ne 11, 3) := by decide +kernel
theorem dX6_tellsOf_8 : decode cX6_tellsOf 8 = .ok (.aload_n 0, 1) := by decide +kernel
theorem dX6_tellsOf_9 : decode cX6_tellsOf 9 = .ok (.iload_n 1, 1) := by decide +kernel
theorem dX6_tellsOf_10 : decode cX6_tellsOf 10 = .ok (.invokevirtual 176, 3) := by decide +kernel
theorem dX6_tellsOf_13 : decode cX6_tellsOf 13 = .ok (.goto 41, 3) := by decide +kernel
theorem dX6_tellsOf_16 : decode cX6_tellsOf 16 = .ok (.iconst 0, 1) := by decide +kernel
theorem dX6_tellsOf_17 : decode cX6_tellsOf 17 = .ok (.istore_n 3, 1) := by decide +kernel
theorem dX6_tellsOf_18 : decode cX6_tellsOf 18 = .ok (.iload_n 3, 1) := by decide +kernel
theorem dX6_tellsOf_19 : decode cX6_tellsOf 19 = .ok (.iconst 4, 1) := by decide +kernel
theorem dX6_tellsOf_20 : decode cX6_tellsOf 20 = .ok (.if_icmp .ge 30, 3) := by decide +kernel
theorem dX6_tellsOf_23 : decode cX6_tellsOf 23 = .ok (.aload_n 0, 1) := by decide +kernel
theorem dX6_tellsOf_24 : decode cX6_tellsOf 24 = .ok (.getfield 39, 3) := by decide +kernel
theorem dX6_tellsOf_27 : decode cX6_tellsOf 27 = .ok (.iload_n 3, 1) := by decide +kernel
theorem dX6_tellsOf_28 : decode cX6_tellsOf 28 = .ok (.aload_n 0, 1) := by decide +kernel
theorem dX6_tellsOf_29 : decode cX6_tellsOf 29 = .ok (.getfield 27, 3) := by decide +kernel
theorem dX6_tellsOf_32 : decode cX6_tellsOf 32 = .ok (.bipush 16, 2) := by decide +kernel
theorem dX6_tellsOf_34 : decode cX6_tellsOf 34 = .ok (.iload_n 2, 1) := by decide +kernel
theorem dX6_tellsOf_35 : decode cX6_tellsOf 35 = .ok (.imul, 1) := by decide +kernel
theorem dX6_tellsOf_36 : decode cX6_tellsOf 36 = .ok (.iconst 4, 1) := by decide +kernel
theorem dX6_tellsOf_37 : decode cX6_tellsOf 37 = .ok (.iload_n 1, 1) := by decide +kernel
theorem dX6_tellsOf_38 : decode cX6_tellsOf 38 = .ok (.imul, 1) := by decide +kernel
theorem dX6_tellsOf_39 : decode cX6_tellsOf 39 = .ok (.iadd, 1) := by decide +kernel
theorem dX6_tellsOf_40 : decode cX6_tellsOf 40 = .ok (.iload_n 3, 1) := by decide +kernel
theorem dX6_tellsOf_41 : decode cX6_tellsOf 41 = .ok (.iadd, 1) := by decide +kernel
theorem dX6_tellsOf_42 : decode cX6_tellsOf 42 = .ok (.iaload, 1) := by decide +kernel
theorem dX6_tellsOf_43 : decode cX6_tellsOf 43 = .ok (.iastore, 1) := by decide +kernel
theorem dX6_tellsOf_44 : decode cX6_tellsOf 44 = .ok (.iinc 3 1, 3) := by decide +kernel
theorem dX6_tellsOf_47 : decode cX6_tellsOf 47 = .ok (.goto (-29), 3) := by decide +kernel
theorem dX6_tellsOf_50 : decode cX6_tellsOf 50 = .ok (.aload_n 0, 1) := by decide +kernel
theorem dX6_tellsOf_51 : decode cX6_tellsOf 51 = .ok (.invokevirtual 173, 3) := by decide +kernel
theorem dX6_tellsOf_54 : decode cX6_tellsOf 54 = .ok (.return_, 1) := by decide +kernel
theorem dX6_machines_0 : decode cX6_machines 0 = .ok (.aload_n 0, 1) := by decide +kernel
theorem dX6_machines_1 : decode cX6_machines 1 = .ok (.iconst 0, 1) := by decide +kernel
theorem dX6_machines_2 : decode cX6_machines 2 = .ok (.putfield 106, 3) := by decide +kernel
theorem dX6_machines_5 : decode cX6_machines 5 = .ok (.iload_n 1, 1) := by decide +kernel
theorem dX6_machines_6 : decode cX6_machines 6 = .ok (.iconst 1, 1) := by decide +kernel
theorem dX6_machines_7 : decode cX6_machines 7 = .ok (.iconst 4, 1) := by decide +kernel
theorem dX6_machines_8 : decode cX6_machines 8 = .ok (.invokestatic 115, 3) := by decide +kernel
theorem dX6_machines_11 : decode cX6_machines 11 = .ok (.ifCond .ne 5, 3) := by decide +kernel
theorem dX6_machines_14 : decode cX6_machines 14 = .ok (.iconst (-1), 1) := by decide +kernel
theorem dX6_machines_15 : decode cX6_machines 15 = .ok (.ireturn, 1) := by decide +kernel
theorem dX6_machines_16 : decode cX6_machines 16 = .ok (.aload_n 0, 1) := by decide +kernel
theorem dX6_machines_17 : decode cX6_machines 17 = .ok (.getfield 7, 3) := by decide +kernel
theorem dX6_machines_20 : decode cX6_machines 20 = .ok (.istore_n 2, 1) := by decide +kernel
theorem dX6_machines_21 : decode cX6_machines 21 = .ok (.aload_n 0, 1) := by decide +kernel
theorem dX6_machines_22 : decode cX6_machines 22 = .ok (.iload_n 1, 1) := by decide +kernel
theorem dX6_machines_23 : decode cX6_machines 23 = .ok (.putfield 7, 3) := by decide +kernel
theorem dX6_machines_26 : decode cX6_machines 26 = .ok (.aload_n 0, 1) := by decide +kernel
theorem dX6_machines_27 : decode cX6_machines 27 = .ok (.invokevirtual 103, 3) := by decide +kernel
theorem dX6_machines_30 : decode cX6_machines 30 = .ok (.iload_n 2, 1) := by decide +kernel
theorem dX6_machines_31 : decode cX6_machines 31 = .ok (.ireturn, 1) := by decide +kernel
theorem dX6_rules_0 : decode cX6_rules 0 = .ok (.aload_n 0, 1) := by decide +kernel
theorem dX6_rules_1 : decode cX6_rules 1 = .ok (.iconst 0, 1) := by decide +kernel
theorem dX6_rules_2 : decode cX6_rules 2 = .ok (.putfield 106, 3) := by decide +kernel
theorem dX6_rules_5 : decode cX6_rules 5 = .ok (.iload_n 1, 1) := by decide +kernel
theorem dX6_rules_6 : decode cX6_rules 6 = .ok (.iconst 0, 1) := by decide +kernel
theorem dX6_rules_7 : decode cX6_rules 7 = .ok (.iconst 3, 1) := by decide +kernel
theorem dX6_rules_8 : decode cX6_rules 8 = .ok (.invokestatic 115, 3) := by decide +kernel
theorem dX6_rules_11 : decode cX6_rules 11 = .ok (.ifCond .ne 5, 3) := by decide +kernel
theorem dX6_rules_14 : decode cX6_rules 14 = .ok (.iconst (-1), 1) := by decide +kernel
theorem dX6_rules_15 : decode cX6_rules 15 = .ok (.ireturn, 1) := by decide +kernel
theorem dX6_rules_16 : decode cX6_rules 16 = .ok (.aload_n 0, 1) := by decide +kernel
theorem dX6_rules_17 : decode cX6_rules 17 = .ok (.getfield 134, 3) := by decide +kernel
theorem dX6_rules_20 : decode cX6_rules 20 = .ok (.istore_n 2, 1) := by decide +kernel
theorem dX6_rules_21 : decode cX6_rules 21 = .ok (.aload_n 0, 1) := by decide +kernel
theorem dX6_rules_22 : decode cX6_rules 22 = .ok (.iload_n 1, 1) := by decide +kernel
theorem dX6_rules_23 : decode cX6_rules 23 = .ok (.putfield 134, 3) := by decide +kernel
theorem dX6_rules_26 : decode cX6_rules 26 = .ok (.iload_n 2, 1) := by decide +kernel
theorem dX6_rules_27 : decode cX6_rules 27 = .ok (.ireturn, 1) := by decide +kernel
theorem dX6_makes_0 : decode cX6_makes 0 = .ok (.aload_n 0, 1) := by decide +kernel
theorem dX6_makes_1 : decode cX6_makes 1 = .ok (.getfield 13, 3) := by decide +kernel
theorem dX6_makes_4 : decode cX6_makes 4 = .ok (.iload_n 1, 1) := by decide +kernel
theorem dX6_makes_5 : decode cX6_makes 5 = .ok (.iaload, 1) := by decide +kernel
theorem dX6_makes_6 : decode cX6_makes 6 = .ok (.istore 7, 2) := by decide +kernel
theorem dX6_makes_8 : decode cX6_makes 8 = .ok (.iload_n 1, 1) := by decide +kernel
theorem dX6_makes_9 : decode cX6_makes 9 = .ok (.iload 7, 2) := by decide +kernel
theorem dX6_makes_11 : decode cX6_makes 11 = .ok (.invokestatic 119, 3) := by decide +kernel
theorem dX6_makes_14 : decode cX6_makes 14 = .ok (.istore 8, 2) := by decide +kernel
theorem dX6_makes_16 : decode cX6_makes 16 = .ok (.iconst 0, 1) := by decide +kernel
theorem dX6_makes_17 : decode cX6_makes 17 = .ok (.istore 9, 2) := by decide +kernel
theorem dX6_makes_19 : decode cX6_makes 19 = .ok (.iconst 0, 1) := by decide +kernel
theorem dX6_makes_20 : decode cX6_makes 20 = .ok (.istore 10, 2) := by decide +kernel
theorem dX6_makes_22 : decode cX6_makes 22 = .ok (.iload 10, 2) := by decide +kernel
theorem dX6_makes_24 : decode cX6_makes 24 = .ok (.aload_n 0, 1) := by decide +kernel
theorem dX6_makes_25 : decode cX6_makes 25 = .ok (.getfield 7, 3) := by decide +kernel
theorem dX6_makes_28 : decode cX6_makes 28 = .ok (.if_icmp .ge 80, 3) := by decide +kernel
theorem dX6_makes_31 : decode cX6_makes 31 = .ok (.aload_n 0, 1) := by decide +kernel
theorem dX6_makes_32 : decode cX6_makes 32 = .ok (.getfield 24, 3) := by decide +kernel
theorem dX6_makes_35 : decode cX6_makes 35 = .ok (.iconst 4, 1) := by decide +kernel
theorem dX6_makes_36 : decode cX6_makes 36 = .ok (.iload_n 1, 1) := by decide +kernel
theorem dX6_makes_37 : decode cX6_makes 37 = .ok (.imul, 1) := by decide +kernel
theorem dX6_makes_38 : decode cX6_makes 38 = .ok (.iload 10, 2) := by decide +kernel
theorem dX6_makes_40 : decode cX6_makes 40 = .ok (.iadd, 1) := by decide +kernel
theorem dX6_makes_41 : decode cX6_makes 41 = .ok (.iaload, 1) := by decide +kernel
theorem dX6_makes_42 : decode cX6_makes 42 = .ok (.istore 11, 2) := by decide +kernel
theorem dX6_makes_44 : decode cX6_makes 44 = .ok (.aload_n 0, 1) := by decide +kernel
theorem dX6_makes_45 : decode cX6_makes 45 = .ok (.getfield 17, 3) := by decide +kernel
theorem dX6_makes_48 : decode cX6_makes 48 = .ok (.iload 8, 2) := by decide +kernel
theorem dX6_makes_50 : decode cX6_makes 50 = .ok (.bipush 6, 2) := by decide +kernel
theorem dX6_makes_52 : decode cX6_makes 52 = .ok (.iadd, 1) := by decide +kernel
theorem dX6_makes_53 : decode cX6_makes 53 = .ok (.iload 10, 2) := by decide +kernel
theorem dX6_makes_55 : decode cX6_makes 55 = .ok (.iadd, 1) := by decide +kernel
theorem dX6_makes_56 : decode cX6_makes 56 = .ok (.iload 11, 2) := by decide +kernel
theorem dX6_makes_58 : decode cX6_makes 58 = .ok (.iastore, 1) := by decide +kernel
theorem dX6_makes_59 : decode cX6_makes 59 = .ok (.iload 11, 2) := by decide +kernel
theorem dX6_makes_61 : decode cX6_makes 61 = .ok (.ifCond .ne 7, 3) := by decide +kernel
theorem dX6_makes_64 : decode cX6_makes 64 = .ok (.iconst 0, 1) := by decide +kernel
theorem dX6_makes_65 : decode cX6_makes 65 = .ok (.goto 19, 3) := by decide +kernel
theorem dX6_makes_68 : decode cX6_makes 68 = .ok (.aload_n 0, 1) := by decide +kernel
theorem dX6_makes_69 : decode cX6_makes 69 = .ok (.getfield 17, 3) := by decide +kernel
theorem dX6_makes_72 : decode cX6_makes 72 = .ok (.iload 10, 2) := by decide +kernel
theorem dX6_makes_74 : decode cX6_makes 74 = .ok (.iload 11, 2) := by decide +kernel
theorem dX6_makes_76 : decode cX6_makes 76 = .ok (.iconst 1, 1) := by decide +kernel
theorem dX6_makes_77 : decode cX6_makes 77 = .ok (.isub, 1) := by decide +kernel
theorem dX6_makes_78 : decode cX6_makes 78 = .ok (.invokestatic 119, 3) := by decide +kernel
theorem dX6_makes_81 : decode cX6_makes 81 = .ok (.iconst 4, 1) := by decide +kernel
theorem dX6_makes_82 : decode cX6_makes 82 = .ok (.iadd, 1) := by decide +kernel
theorem dX6_makes_83 : decode cX6_makes 83 = .ok (.iaload, 1) := by decide +kernel
theorem dX6_makes_84 : decode cX6_makes 84 = .ok (.istore 12, 2) := by decide +kernel
theorem dX6_makes_86 : decode cX6_makes 86 = .ok (.iload 12, 2) := by decide +kernel
theorem dX6_makes_88 : decode cX6_makes 88 = .ok (.iload 9, 2) := by decide +kernel
theorem dX6_makes_90 : decode cX6_makes 90 = .ok (.if_icmp .le 8, 3) := by decide +kernel
theorem dX6_makes_93 : decode cX6_makes 93 = .ok (.iload 12, 2) := by decide +kernel
theorem dX6_makes_95 : decode cX6_makes 95 = .ok (.goto 5, 3) := by decide +kernel
theorem dX6_makes_98 : decode cX6_makes 98 = .ok (.iload 9, 2) := by decide +kernel
theorem dX6_makes_100 : decode cX6_makes 100 = .ok (.istore 9, 2) := by decide +kernel
theorem dX6_makes_102 : decode cX6_makes 102 = .ok (.iinc 10 1, 3) := by decide +kernel
theorem dX6_makes_105 : decode cX6_makes 105 = .ok (.goto (-83), 3) := by decide +kernel
theorem dX6_makes_108 : decode cX6_makes 108 = .ok (.aload_n 0, 1) := by decide +kernel
theorem dX6_makes_109 : decode cX6_makes 109 = .ok (.getfield 7, 3) := by decide +kernel
theorem dX6_makes_112 : decode cX6_makes 112 = .ok (.istore 10, 2) := by decide +kernel
theorem dX6_makes_114 : decode cX6_makes 114 = .ok (.iload 10, 2) := by decide +kernel
theorem dX6_makes_116 : decode cX6_makes 116 = .ok (.iconst 4, 1) := by decide +kernel
theorem dX6_makes_117 : decode cX6_makes 117 = .ok (.if_icmp .ge 23, 3) := by decide +kernel
theorem dX6_makes_120 : decode cX6_makes 120 = .ok (.aload_n 0, 1) := by decide +kernel
theorem dX6_makes_121 : decode cX6_makes 121 = .ok (.getfield 17, 3) := by decide +kernel
theorem dX6_makes_124 : decode cX6_makes 124 = .ok (.iload 8, 2) := by decide +kernel
theorem dX6_makes_126 : decode cX6_makes 126 = .ok (.bipush 6, 2) := by decide +kernel
theorem dX6_makes_128 : decode cX6_makes 128 = .ok (.iadd, 1) := by decide +kernel
theorem dX6_makes_129 : decode cX6_makes 129 = .ok (.iload 10, 2) := by decide +kernel
theorem dX6_makes_131 : decode cX6_makes 131 = .ok (.iadd, 1) := by decide +kernel
theorem dX6_makes_132 : decode cX6_makes 132 = .ok (.iconst 0, 1) := by decide +kernel
theorem dX6_makes_133 : decode cX6_makes 133 = .ok (.iastore, 1) := by decide +kernel
theorem dX6_makes_134 : decode cX6_makes 134 = .ok (.iinc 10 1, 3) := by decide +kernel
theorem dX6_makes_137 : decode cX6_makes 137 = .ok (.goto (-23), 3) := by decide +kernel
theorem dX6_makes_140 : decode cX6_makes 140 = .ok (.aload_n 0, 1) := by decide +kernel
theorem dX6_makes_141 : decode cX6_makes 141 = .ok (.getfield 17, 3) := by decide +kernel
theorem dX6_makes_144 : decode cX6_makes 144 = .ok (.iload 8, 2) := by decide +kernel
theorem dX6_makes_146 : decode cX6_makes 146 = .ok (.iload_n 2, 1) := by decide +kernel
theorem dX6_makes_147 : decode cX6_makes 147 = .ok (.iastore, 1) := by decide +kernel
theorem dX6_makes_148 : decode cX6_makes 148 = .ok (.aload_n 0, 1) := by decide +kernel
theorem dX6_makes_149 : decode cX6_makes 149 = .ok (.getfield 17, 3) := by decide +kernel
theorem dX6_makes_152 : decode cX6_makes 152 = .ok (.iload 8, 2) := by decide +kernel
theorem dX6_makes_154 : decode cX6_makes 154 = .ok (.iconst 1, 1) := by decide +kernel
theorem dX6_makes_155 : decode cX6_makes 155 = .ok (.iadd, 1) := by decide +kernel
theorem dX6_makes_156 : decode cX6_makes 156 = .ok (.iload_n 3, 1) := by decide +kernel
theorem dX6_makes_157 : decode cX6_makes 157 = .ok (.iastore, 1) := by decide +kernel
theorem dX6_makes_158 : decode cX6_makes 158 = .ok (.aload_n 0, 1) := by decide +kernel
theorem dX6_makes_159 : decode cX6_makes 159 = .ok (.getfield 17, 3) := by decide +kernel
theorem dX6_makes_162 : decode cX6_makes 162 = .ok (.iload 8, 2) := by decide +kernel
theorem dX6_makes_164 : decode cX6_makes 164 = .ok (.iconst 2, 1) := by decide +kernel
theorem dX6_makes_165 : decode cX6_makes 165 = .ok (.iadd, 1) := by decide +kernel
theorem dX6_makes_166 : decode cX6_makes 166 = .ok (.iload 4, 2) := by decide +kernel
theorem dX6_makes_168 : decode cX6_makes 168 = .ok (.iastore, 1) := by decide +kernel
theorem dX6_makes_169 : decode cX6_makes 169 = .ok (.aload_n 0, 1) := by decide +kernel
theorem dX6_makes_170 : decode cX6_makes 170 = .ok (.getfield 17, 3) := by decide +kernel
theorem dX6_makes_173 : decode cX6_makes 173 = .ok (.iload 8, 2) := by decide +kernel
theorem dX6_makes_175 : decode cX6_makes 175 = .ok (.iconst 3, 1) := by decide +kernel
theorem dX6_makes_176 : decode cX6_makes 176 = .ok (.iadd, 1) := by decide +kernel
theorem dX6_makes_177 : decode cX6_makes 177 = .ok (.iload 5, 2) := by decide +kernel
theorem dX6_makes_179 : decode cX6_makes 179 = .ok (.iastore, 1) := by decide +kernel
theorem dX6_makes_180 : decode cX6_makes 180 = .ok (.aload_n 0, 1) := by decide +kernel
theorem dX6_makes_181 : decode cX6_makes 181 = .ok (.getfield 17, 3) := by decide +kernel
theorem dX6_makes_184 : decode cX6_makes 184 = .ok (.iload 8, 2) := by decide +kernel
theorem dX6_makes_186 : decode cX6_makes 186 = .ok (.iconst 4, 1) := by decide +kernel
theorem dX6_makes_187 : decode cX6_makes 187 = .ok (.iadd, 1) := by decide +kernel
theorem dX6_makes_188 : decode cX6_makes 188 = .ok (.iload 9, 2) := by decide +kernel
theorem dX6_makes_190 : decode cX6_makes 190 = .ok (.iconst 1, 1) := by decide +kernel
theorem dX6_makes_191 : decode cX6_makes 191 = .ok (.iadd, 1) := by decide +kernel
theorem dX6_makes_192 : decode cX6_makes 192 = .ok (.iastore, 1) := by decide +kernel
theorem dX6_makes_193 : decode cX6_makes 193 = .ok (.aload_n 0, 1) := by decide +kernel
theorem dX6_makes_194 : decode cX6_makes 194 = .ok (.getfield 17, 3) := by decide +kernel
theorem dX6_makes_197 : decode cX6_makes 197 = .ok (.iload 8, 2) := by decide +kernel
theorem dX6_makes_199 : decode cX6_makes 199 = .ok (.iconst 5, 1) := by decide +kernel
theorem dX6_makes_200 : decode cX6_makes 200 = .ok (.iadd, 1) := by decide +kernel
theorem dX6_makes_201 : decode cX6_makes 201 = .ok (.aload_n 0, 1) := by decide +kernel
theorem dX6_makes_202 : decode cX6_makes 202 = .ok (.getfield 109, 3) := by decide +kernel
theorem dX6_makes_205 : decode cX6_makes 205 = .ok (.iastore, 1) := by decide +kernel
theorem dX6_makes_206 : decode cX6_makes 206 = .ok (.aload_n 0, 1) := by decide +kernel
theorem dX6_makes_207 : decode cX6_makes 207 = .ok (.getfield 17, 3) := by decide +kernel
theorem dX6_makes_210 : decode cX6_makes 210 = .ok (.iload 8, 2) := by decide +kernel
theorem dX6_makes_212 : decode cX6_makes 212 = .ok (.bipush 10, 2) := by decide +kernel
theorem dX6_makes_214 : decode cX6_makes 214 = .ok (.iadd, 1) := by decide +kernel
theorem dX6_makes_215 : decode cX6_makes 215 = .ok (.iload 6, 2) := by decide +kernel
theorem dX6_makes_217 : decode cX6_makes 217 = .ok (.iastore, 1) := by decide +kernel
theorem dX6_makes_218 : decode cX6_makes 218 = .ok (.aload_n 0, 1) := by decide +kernel
theorem dX6_makes_219 : decode cX6_makes 219 = .ok (.getfield 13, 3) := by decide +kernel
theorem dX6_makes_222 : decode cX6_makes 222 = .ok (.iload_n 1, 1) := by decide +kernel
theorem dX6_makes_223 : decode cX6_makes 223 = .ok (.dup2, 1) := by decide +kernel
theorem dX6_makes_224 : decode cX6_makes 224 = .ok (.iaload, 1) := by decide +kernel
theorem dX6_makes_225 : decode cX6_makes 225 = .ok (.iconst 1, 1) := by decide +kernel
theorem dX6_makes_226 : decode cX6_makes 226 = .ok (.iadd, 1) := by decide +kernel
theorem dX6_makes_227 : decode cX6_makes 227 = .ok (.iastore, 1) := by decide +kernel
theorem dX6_makes_228 : decode cX6_makes 228 = .ok (.aload_n 0, 1) := by decide +kernel
theorem dX6_makes_229 : decode cX6_makes 229 = .ok (.getfield 24, 3) := by decide +kernel
theorem dX6_makes_232 : decode cX6_makes 232 = .ok (.iconst 4, 1) := by decide +kernel
theorem dX6_makes_233 : decode cX6_makes 233 = .ok (.iload_n 1, 1) := by decide +kernel
theorem dX6_makes_234 : decode cX6_makes 234 = .ok (.imul, 1) := by decide +kernel
theorem dX6_makes_235 : decode cX6_makes 235 = .ok (.iload_n 1, 1) := by decide +kernel
theorem dX6_makes_236 : decode cX6_makes 236 = .ok (.iadd, 1) := by decide +kernel
theorem dX6_makes_237 : decode cX6_makes 237 = .ok (.aload_n 0, 1) := by decide +kernel
theorem dX6_makes_238 : decode cX6_makes 238 = .ok (.getfield 13, 3) := by decide +kernel
theorem dX6_makes_241 : decode cX6_makes 241 = .ok (.iload_n 1, 1) := by decide +kernel
theorem dX6_makes_242 : decode cX6_makes 242 = .ok (.iaload, 1) := by decide +kernel
theorem dX6_makes_243 : decode cX6_makes 243 = .ok (.iastore, 1) := by decide +kernel
theorem dX6_makes_244 : decode cX6_makes 244 = .ok (.iload 7, 2) := by decide +kernel
theorem dX6_makes_246 : decode cX6_makes 246 = .ok (.ireturn, 1) := by decide +kernel
theorem dX6_make_0 : decode cX6_make 0 = .ok (.aload_n 0, 1) := by decide +kernel
theorem dX6_make_1 : decode cX6_make 1 = .ok (.iconst 0, 1) := by decide +kernel
theorem dX6_make_2 : decode cX6_make 2 = .ok (.putfield 106, 3) := by decide +kernel
theorem dX6_make_5 : decode cX6_make 5 = .ok (.aload_n 0, 1) := by decide +kernel
theorem dX6_make_6 : decode cX6_make 6 = .ok (.iload_n 1, 1) := by decide +kernel
theorem dX6_make_7 : decode cX6_make 7 = .ok (.invokevirtual 179, 3) := by decide +kernel
theorem dX6_make_10 : decode cX6_make 10 = .ok (.ifCond .eq 30, 3) := by decide +kernel
theorem dX6_make_13 : decode cX6_make 13 = .ok (.iload_n 2, 1) := by decide +kernel
theorem dX6_make_14 : decode cX6_make 14 = .ok (.iconst 1, 1) := by decide +kernel
theorem dX6_make_15 : decode cX6_make 15 = .ok (.iconst 2, 1) := by decide +kernel
theorem dX6_make_16 : decode cX6_make 16 = .ok (.invokestatic 115, 3) := by decide +kernel
theorem dX6_make_19 : decode cX6_make 19 = .ok (.ifCond .eq 21, 3) := by decide +kernel
theorem dX6_make_22 : decode cX6_make 22 = .ok (.iload_n 3, 1) := by decide +kernel
theorem dX6_make_23 : decode cX6_make 23 = .ok (.invokestatic 182, 3) := by decide +kernel
theorem dX6_make_26 : decode cX6_make 26 = .ok (.ifCond .eq 14, 3) := by decide +kernel
theorem dX6_make_29 : decode cX6_make 29 = .ok (.iload 4, 2) := by decide +kernel
theorem dX6_make_31 : decode cX6_make 31 = .ok (.iconst 0, 1) := by decide +kernel
theorem dX6_make_32 : decode cX6_make 32 = .ok (.bipush 9, 2) := by decide +kernel
theorem dX6_make_34 : decode cX6_make 34 = .ok (.invokestatic 115, 3) := by decide +kernel
theorem dX6_make_37 : decode cX6_make 37 = .ok (.ifCond .ne 5, 3) := by decide +kernel
theorem dX6_make_40 : decode cX6_make 40 = .ok (.iconst (-1), 1) := by decide +kernel
theorem dX6_make_41 : decode cX6_make 41 = .ok (.ireturn, 1) := by decide +kernel
theorem dX6_make_42 : decode cX6_make 42 = .ok (.aload_n 0, 1) := by decide +kernel
theorem dX6_make_43 : decode cX6_make 43 = .ok (.iload_n 1, 1) := by decide +kernel
theorem dX6_make_44 : decode cX6_make 44 = .ok (.invokevirtual 176, 3) := by decide +kernel
theorem dX6_make_47 : decode cX6_make 47 = .ok (.aload_n 0, 1) := by decide +kernel
theorem dX6_make_48 : decode cX6_make 48 = .ok (.iload_n 3, 1) := by decide +kernel
theorem dX6_make_49 : decode cX6_make 49 = .ok (.invokevirtual 137, 3) := by decide +kernel
theorem dX6_make_52 : decode cX6_make 52 = .ok (.ifCond .ne 6, 3) := by decide +kernel
theorem dX6_make_55 : decode cX6_make 55 = .ok (.bipush (-2), 2) := by decide +kernel
theorem dX6_make_57 : decode cX6_make 57 = .ok (.ireturn, 1) := by decide +kernel
theorem dX6_make_58 : decode cX6_make 58 = .ok (.iconst 1, 1) := by decide +kernel
theorem dX6_make_59 : decode cX6_make 59 = .ok (.istore 5, 2) := by decide +kernel
theorem dX6_make_61 : decode cX6_make 61 = .ok (.aload_n 0, 1) := by decide +kernel
theorem dX6_make_62 : decode cX6_make 62 = .ok (.iload_n 1, 1) := by decide +kernel
theorem dX6_make_63 : decode cX6_make 63 = .ok (.iload 5, 2) := by decide +kernel
theorem dX6_make_65 : decode cX6_make 65 = .ok (.invokevirtual 185, 3) := by decide +kernel
theorem dX6_make_68 : decode cX6_make 68 = .ok (.ifCond .eq 9, 3) := by decide +kernel
theorem dX6_make_71 : decode cX6_make 71 = .ok (.iinc 5 1, 3) := by decide +kernel
theorem dX6_make_74 : decode cX6_make 74 = .ok (.goto (-13), 3) := by decide +kernel
theorem dX6_make_77 : decode cX6_make 77 = .ok (.iload 5, 2) := by decide +kernel
theorem dX6_make_79 : decode cX6_make 79 = .ok (.bipush 11, 2) := by decide +kernel
theorem dX6_make_81 : decode cX6_make 81 = .ok (.if_icmp .gt 14, 3) := by decide +kernel
theorem dX6_make_84 : decode cX6_make 84 = .ok (.aload_n 0, 1) := by decide +kernel
theorem dX6_make_85 : decode cX6_make 85 = .ok (.getfield 13, 3) := by decide +kernel
theorem dX6_make_88 : decode cX6_make 88 = .ok (.iload_n 1, 1) := by decide +kernel
theorem dX6_make_89 : decode cX6_make 89 = .ok (.iaload, 1) := by decide +kernel
theorem dX6_make_90 : decode cX6_make 90 = .ok (.bipush 20, 2) := by decide +kernel
theorem dX6_make_92 : decode cX6_make 92 = .ok (.if_icmp .ne 6, 3) := by decide +kernel
theorem dX6_make_95 : decode cX6_make 95 = .ok (.bipush (-3), 2) := by decide +kernel
theorem dX6_make_97 : decode cX6_make 97 = .ok (.ireturn, 1) := by decide +kernel
theorem dX6_make_98 : decode cX6_make 98 = .ok (.aload_n 0, 1) := by decide +kernel
theorem dX6_make_99 : decode cX6_make 99 = .ok (.iload_n 1, 1) := by decide +kernel
theorem dX6_make_100 : decode cX6_make 100 = .ok (.iconst 0, 1) := by decide +kernel
theorem dX6_make_101 : decode cX6_make 101 = .ok (.iload 5, 2) := by decide +kernel
theorem dX6_make_103 : decode cX6_make 103 = .ok (.iload_n 3, 1) := by decide +kernel
theorem dX6_make_104 : decode cX6_make 104 = .ok (.iload 4, 2) := by decide +kernel
theorem dX6_make_106 : decode cX6_make 106 = .ok (.iload_n 2, 1) := by decide +kernel
theorem dX6_make_107 : decode cX6_make 107 = .ok (.invokevirtual 188, 3) := by decide +kernel
theorem dX6_make_110 : decode cX6_make 110 = .ok (.pop, 1) := by decide +kernel
theorem dX6_make_111 : decode cX6_make 111 = .ok (.iload 5, 2) := by decide +kernel
theorem dX6_make_113 : decode cX6_make 113 = .ok (.ireturn, 1) := by decide +kernel
theorem dX6_isNew_0 : decode cX6_isNew 0 = .ok (.iconst 0, 1) := by decide +kernel
theorem dX6_isNew_1 : decode cX6_isNew 1 = .ok (.istore_n 3, 1) := by decide +kernel
theorem dX6_isNew_2 : decode cX6_isNew 2 = .ok (.iconst 0, 1) := by decide +kernel
theorem dX6_isNew_3 : decode cX6_isNew 3 = .ok (.istore 4, 2) := by decide +kernel
theorem dX6_isNew_5 : decode cX6_isNew 5 = .ok (.iload 4, 2) := by decide +kernel
theorem dX6_isNew_7 : decode cX6_isNew 7 = .ok (.aload_n 0, 1) := by decide +kernel
theorem dX6_isNew_8 : decode cX6_isNew 8 = .ok (.getfield 7, 3) := by decide +kernel
theorem dX6_isNew_11 : decode cX6_isNew 11 = .ok (.if_icmp .ge 74, 3) := by decide +kernel
theorem dX6_isNew_14 : decode cX6_isNew 14 = .ok (.iconst 0, 1) := by decide +kernel
theorem dX6_isNew_15 : decode cX6_isNew 15 = .ok (.istore 5, 2) := by decide +kernel
theorem dX6_isNew_17 : decode cX6_isNew 17 = .ok (.iload 5, 2) := by decide +kernel
theorem dX6_isNew_19 : decode cX6_isNew 19 = .ok (.aload_n 0, 1) := by decide +kernel
theorem dX6_isNew_20 : decode cX6_isNew 20 = .ok (.getfield 24, 3) := by decide +kernel
theorem dX6_isNew_23 : decode cX6_isNew 23 = .ok (.iconst 4, 1) := by decide +kernel
theorem dX6_isNew_24 : decode cX6_isNew 24 = .ok (.iload_n 1, 1) := by decide +kernel
theorem dX6_isNew_25 : decode cX6_isNew 25 = .ok (.imul, 1) := by decide +kernel
theorem dX6_isNew_26 : decode cX6_isNew 26 = .ok (.iload 4, 2) := by decide +kernel
theorem dX6_isNew_28 : decode cX6_isNew 28 = .ok (.iadd, 1) := by decide +kernel
theorem dX6_isNew_29 : decode cX6_isNew 29 = .ok (.iaload, 1) := by decide +kernel
theorem dX6_isNew_30 : decode cX6_isNew 30 = .ok (.if_icmp .ge 49, 3) := by decide +kernel
theorem dX6_isNew_33 : decode cX6_isNew 33 = .ok (.iload 4, 2) := by decide +kernel
theorem dX6_isNew_35 : decode cX6_isNew 35 = .ok (.iload 5, 2) := by decide +kernel
theorem dX6_isNew_37 : decode cX6_isNew 37 = .ok (.invokestatic 119, 3) := by decide +kernel
theorem dX6_isNew_40 : decode cX6_isNew 40 = .ok (.istore 6, 2) := by decide +kernel
theorem dX6_isNew_42 : decode cX6_isNew 42 = .ok (.iload_n 3, 1) := by decide +kernel
theorem dX6_isNew_43 : decode cX6_isNew 43 = .ok (.aload_n 0, 1) := by decide +kernel
theorem dX6_isNew_44 : decode cX6_isNew 44 = .ok (.getfield 17, 3) := by decide +kernel
theorem dX6_isNew_47 : decode cX6_isNew 47 = .ok (.iload 6, 2) := by decide +kernel
theorem dX6_isNew_49 : decode cX6_isNew 49 = .ok (.iaload, 1) := by decide +kernel
theorem dX6_isNew_50 : decode cX6_isNew 50 = .ok (.ifCond .ne 20, 3) := by decide +kernel
theorem dX6_isNew_53 : decode cX6_isNew 53 = .ok (.aload_n 0, 1) := by decide +kernel
theorem dX6_isNew_54 : decode cX6_isNew 54 = .ok (.getfield 17, 3) := by decide +kernel
theorem dX6_isNew_57 : decode cX6_isNew 57 = .ok (.iload 6, 2) := by decide +kernel
theorem dX6_isNew_59 : decode cX6_isNew 59 = .ok (.iconst 1, 1) := by decide +kernel
theorem dX6_isNew_60 : decode cX6_isNew 60 = .ok (.iadd, 1) := by decide +kernel
theorem dX6_isNew_61 : decode cX6_isNew 61 = .ok (.iaload, 1) := by decide +kernel
theorem dX6_isNew_62 : decode cX6_isNew 62 = .ok (.iload_n 2, 1) := by decide +kernel
theorem dX6_isNew_63 : decode cX6_isNew 63 = .ok (.if_icmp .ne 7, 3) := by decide +kernel
theorem dX6_isNew_66 : decode cX6_isNew 66 = .ok (.iconst 1, 1) := by decide +kernel
theorem dX6_isNew_67 : decode cX6_isNew 67 = .ok (.goto 4, 3) := by decide +kernel
theorem dX6_isNew_70 : decode cX6_isNew 70 = .ok (.iconst 0, 1) := by decide +kernel
theorem dX6_isNew_71 : decode cX6_isNew 71 = .ok (.ior, 1) := by decide +kernel
theorem dX6_isNew_72 : decode cX6_isNew 72 = .ok (.istore_n 3, 1) := by decide +kernel
theorem dX6_isNew_73 : decode cX6_isNew 73 = .ok (.iinc 5 1, 3) := by decide +kernel
theorem dX6_isNew_76 : decode cX6_isNew 76 = .ok (.goto (-59), 3) := by decide +kernel
theorem dX6_isNew_79 : decode cX6_isNew 79 = .ok (.iinc 4 1, 3) := by decide +kernel
theorem dX6_isNew_82 : decode cX6_isNew 82 = .ok (.goto (-77), 3) := by decide +kernel
theorem dX6_isNew_85 : decode cX6_isNew 85 = .ok (.iload_n 3, 1) := by decide +kernel
theorem dX6_isNew_86 : decode cX6_isNew 86 = .ok (.ireturn, 1) := by decide +kernel
theorem dX6_move_0 : decode cX6_move 0 = .ok (.aload_n 0, 1) := by decide +kernel
theorem dX6_move_1 : decode cX6_move 1 = .ok (.iconst 0, 1) := by decide +kernel
theorem dX6_move_2 : decode cX6_move 2 = .ok (.putfield 106, 3) := by decide +kernel
theorem dX6_move_5 : decode cX6_move 5 = .ok (.aload_n 0, 1) := by decide +kernel
theorem dX6_move_6 : decode cX6_move 6 = .ok (.iload_n 1, 1) := by decide +kernel
theorem dX6_move_7 : decode cX6_move 7 = .ok (.invokevirtual 179, 3) := by decide +kernel
theorem dX6_move_10 : decode cX6_move 10 = .ok (.ifCond .eq 28, 3) := by decide +kernel
theorem dX6_move_13 : decode cX6_move 13 = .ok (.iload_n 2, 1) := by decide +kernel
theorem dX6_move_14 : decode cX6_move 14 = .ok (.invokestatic 182, 3) := by decide +kernel
theorem dX6_move_17 : decode cX6_move 17 = .ok (.ifCond .eq 21, 3) := by decide +kernel
theorem dX6_move_20 : decode cX6_move 20 = .ok (.iload_n 3, 1) := by decide +kernel
theorem dX6_move_21 : decode cX6_move 21 = .ok (.invokestatic 182, 3) := by decide +kernel
theorem dX6_move_24 : decode cX6_move 24 = .ok (.ifCond .eq 14, 3) := by decide +kernel
theorem dX6_move_27 : decode cX6_move 27 = .ok (.iload 4, 2) := by decide +kernel
theorem dX6_move_29 : decode cX6_move 29 = .ok (.iconst 0, 1) := by decide +kernel
theorem dX6_move_30 : decode cX6_move 30 = .ok (.bipush 9, 2) := by decide +kernel
theorem dX6_move_32 : decode cX6_move 32 = .ok (.invokestatic 115, 3) := by decide +kernel
theorem dX6_move_35 : decode cX6_move 35 = .ok (.ifCond .ne 5, 3) := by decide +kernel
theorem dX6_move_38 : decode cX6_move 38 = .ok (.iconst (-1), 1) := by decide +kernel
theorem dX6_move_39 : decode cX6_move 39 = .ok (.ireturn, 1) := by decide +kernel
theorem dX6_move_40 : decode cX6_move 40 = .ok (.aload_n 0, 1) := by decide +kernel
theorem dX6_move_41 : decode cX6_move 41 = .ok (.iload_n 1, 1) := by decide +kernel
theorem dX6_move_42 : decode cX6_move 42 = .ok (.invokevirtual 176, 3) := by decide +kernel
theorem dX6_move_45 : decode cX6_move 45 = .ok (.iload_n 2, 1) := by decide +kernel
theorem dX6_move_46 : decode cX6_move 46 = .ok (.ifCond .eq 29, 3) := by decide +kernel
theorem dX6_move_49 : decode cX6_move 49 = .ok (.aload_n 0, 1) := by decide +kernel
theorem dX6_move_50 : decode cX6_move 50 = .ok (.getfield 46, 3) := by decide +kernel
theorem dX6_move_53 : decode cX6_move 53 = .ok (.iload_n 2, 1) := by decide +kernel
theorem dX6_move_54 : decode cX6_move 54 = .ok (.baload, 1) := by decide +kernel
theorem dX6_move_55 : decode cX6_move 55 = .ok (.ifCond .eq 20, 3) := by decide +kernel
theorem dX6_move_58 : decode cX6_move 58 = .ok (.aload_n 0, 1) := by decide +kernel
theorem dX6_move_59 : decode cX6_move 59 = .ok (.iload_n 3, 1) := by decide +kernel
theorem dX6_move_60 : decode cX6_move 60 = .ok (.invokevirtual 137, 3) := by decide +kernel
theorem dX6_move_63 : decode cX6_move 63 = .ok (.ifCond .eq 12, 3) := by decide +kernel
theorem dX6_move_66 : decode cX6_move 66 = .ok (.aload_n 0, 1) := by decide +kernel
theorem dX6_move_67 : decode cX6_move 67 = .ok (.iload_n 3, 1) := by decide +kernel
theorem dX6_move_68 : decode cX6_move 68 = .ok (.iload_n 2, 1) := by decide +kernel
theorem dX6_move_69 : decode cX6_move 69 = .ok (.invokevirtual 130, 3) := by decide +kernel
theorem dX6_move_72 : decode cX6_move 72 = .ok (.ifCond .eq 6, 3) := by decide +kernel
theorem dX6_move_75 : decode cX6_move 75 = .ok (.bipush (-2), 2) := by decide +kernel
theorem dX6_move_77 : decode cX6_move 77 = .ok (.ireturn, 1) := by decide +kernel
theorem dX6_move_78 : decode cX6_move 78 = .ok (.aload_n 0, 1) := by decide +kernel
theorem dX6_move_79 : decode cX6_move 79 = .ok (.getfield 13, 3) := by decide +kernel
