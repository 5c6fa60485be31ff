theorem dX6_init_0 : decode cX6_init 0 = .ok (.aload_n 0, 1) := by decide +kernel
theorem dX6_init_1 : decode cX6_init 1 = .ok (.invokespecial 1, 3) := by decide +kernel
theorem dX6_init_4 : decode cX6_init 4 = .ok (.aload_n 0, 1) := by decide +kernel
theorem dX6_init_5 : decode cX6_init 5 = .ok (.iconst 2, 1) := by decide +kernel
theorem dX6_init_6 : decode cX6_init 6 = .ok (.putfield 7, 3) := by decide +kernel
theorem dX6_init_9 : decode cX6_init 9 = .ok (.aload_n 0, 1) := by decide +kernel
theorem dX6_init_10 : decode cX6_init 10 = .ok (.iconst 4, 1) := by decide +kernel
theorem dX6_init_11 : decode cX6_init 11 = .ok (.newarray .int, 2) := by decide +kernel
theorem dX6_init_13 : decode cX6_init 13 = .ok (.putfield 13, 3) := by decide +kernel
theorem dX6_init_16 : decode cX6_init 16 = .ok (.aload_n 0, 1) := by decide +kernel
theorem dX6_init_17 : decode cX6_init 17 = .ok (.sipush 960, 3) := by decide +kernel
theorem dX6_init_20 : decode cX6_init 20 = .ok (.newarray .int, 2) := by decide +kernel
theorem dX6_init_22 : decode cX6_init 22 = .ok (.putfield 17, 3) := by decide +kernel
theorem dX6_init_25 : decode cX6_init 25 = .ok (.aload_n 0, 1) := by decide +kernel
theorem dX6_init_26 : decode cX6_init 26 = .ok (.bipush 80, 2) := by decide +kernel
theorem dX6_init_28 : decode cX6_init 28 = .ok (.newarray .long, 2) := by decide +kernel
theorem dX6_init_30 : decode cX6_init 30 = .ok (.putfield 20, 3) := by decide +kernel
theorem dX6_init_33 : decode cX6_init 33 = .ok (.aload_n 0, 1) := by decide +kernel
theorem dX6_init_34 : decode cX6_init 34 = .ok (.bipush 16, 2) := by decide +kernel
theorem dX6_init_36 : decode cX6_init 36 = .ok (.newarray .int, 2) := by decide +kernel
theorem dX6_init_38 : decode cX6_init 38 = .ok (.putfield 24, 3) := by decide +kernel
theorem dX6_init_41 : decode cX6_init 41 = .ok (.aload_n 0, 1) := by decide +kernel
theorem dX6_init_42 : decode cX6_init 42 = .ok (.sipush 480, 3) := by decide +kernel
theorem dX6_init_45 : decode cX6_init 45 = .ok (.newarray .int, 2) := by decide +kernel
theorem dX6_init_47 : decode cX6_init 47 = .ok (.putfield 27, 3) := by decide +kernel
theorem dX6_init_50 : decode cX6_init 50 = .ok (.aload_n 0, 1) := by decide +kernel
theorem dX6_init_51 : decode cX6_init 51 = .ok (.iconst 4, 1) := by decide +kernel
theorem dX6_init_52 : decode cX6_init 52 = .ok (.newarray .int, 2) := by decide +kernel
theorem dX6_init_54 : decode cX6_init 54 = .ok (.putfield 30, 3) := by decide +kernel
theorem dX6_init_57 : decode cX6_init 57 = .ok (.aload_n 0, 1) := by decide +kernel
theorem dX6_init_58 : decode cX6_init 58 = .ok (.iconst 4, 1) := by decide +kernel
theorem dX6_init_59 : decode cX6_init 59 = .ok (.newarray .int, 2) := by decide +kernel
theorem dX6_init_61 : decode cX6_init 61 = .ok (.putfield 33, 3) := by decide +kernel
theorem dX6_init_64 : decode cX6_init 64 = .ok (.aload_n 0, 1) := by decide +kernel
theorem dX6_init_65 : decode cX6_init 65 = .ok (.iconst 4, 1) := by decide +kernel
theorem dX6_init_66 : decode cX6_init 66 = .ok (.newarray .int, 2) := by decide +kernel
theorem dX6_init_68 : decode cX6_init 68 = .ok (.putfield 36, 3) := by decide +kernel
theorem dX6_init_71 : decode cX6_init 71 = .ok (.aload_n 0, 1) := by decide +kernel
theorem dX6_init_72 : decode cX6_init 72 = .ok (.iconst 4, 1) := by decide +kernel
theorem dX6_init_73 : decode cX6_init 73 = .ok (.newarray .int, 2) := by decide +kernel
theorem dX6_init_75 : decode cX6_init 75 = .ok (.putfield 39, 3) := by decide +kernel
theorem dX6_init_78 : decode cX6_init 78 = .ok (.aload_n 0, 1) := by decide +kernel
theorem dX6_init_79 : decode cX6_init 79 = .ok (.bipush 12, 2) := by decide +kernel
theorem dX6_init_81 : decode cX6_init 81 = .ok (.newarray .boolean, 2) := by decide +kernel
theorem dX6_init_83 : decode cX6_init 83 = .ok (.putfield 42, 3) := by decide +kernel
theorem dX6_init_86 : decode cX6_init 86 = .ok (.aload_n 0, 1) := by decide +kernel
theorem dX6_init_87 : decode cX6_init 87 = .ok (.bipush 12, 2) := by decide +kernel
theorem dX6_init_89 : decode cX6_init 89 = .ok (.newarray .boolean, 2) := by decide +kernel
theorem dX6_init_91 : decode cX6_init 91 = .ok (.putfield 46, 3) := by decide +kernel
theorem dX6_init_94 : decode cX6_init 94 = .ok (.aload_n 0, 1) := by decide +kernel
theorem dX6_init_95 : decode cX6_init 95 = .ok (.bipush 12, 2) := by decide +kernel
theorem dX6_init_97 : decode cX6_init 97 = .ok (.newarray .int, 2) := by decide +kernel
theorem dX6_init_99 : decode cX6_init 99 = .ok (.putfield 49, 3) := by decide +kernel
theorem dX6_init_102 : decode cX6_init 102 = .ok (.aload_n 0, 1) := by decide +kernel
theorem dX6_init_103 : decode cX6_init 103 = .ok (.bipush 12, 2) := by decide +kernel
theorem dX6_init_105 : decode cX6_init 105 = .ok (.newarray .int, 2) := by decide +kernel
theorem dX6_init_107 : decode cX6_init 107 = .ok (.putfield 52, 3) := by decide +kernel
theorem dX6_init_110 : decode cX6_init 110 = .ok (.aload_n 0, 1) := by decide +kernel
theorem dX6_init_111 : decode cX6_init 111 = .ok (.bipush 12, 2) := by decide +kernel
theorem dX6_init_113 : decode cX6_init 113 = .ok (.newarray .int, 2) := by decide +kernel
theorem dX6_init_115 : decode cX6_init 115 = .ok (.putfield 55, 3) := by decide +kernel
theorem dX6_init_118 : decode cX6_init 118 = .ok (.aload_n 0, 1) := by decide +kernel
theorem dX6_init_119 : decode cX6_init 119 = .ok (.bipush 12, 2) := by decide +kernel
theorem dX6_init_121 : decode cX6_init 121 = .ok (.newarray .int, 2) := by decide +kernel
theorem dX6_init_123 : decode cX6_init 123 = .ok (.putfield 58, 3) := by decide +kernel
theorem dX6_init_126 : decode cX6_init 126 = .ok (.aload_n 0, 1) := by decide +kernel
theorem dX6_init_127 : decode cX6_init 127 = .ok (.bipush 12, 2) := by decide +kernel
theorem dX6_init_129 : decode cX6_init 129 = .ok (.newarray .int, 2) := by decide +kernel
theorem dX6_init_131 : decode cX6_init 131 = .ok (.putfield 61, 3) := by decide +kernel
theorem dX6_init_134 : decode cX6_init 134 = .ok (.aload_n 0, 1) := by decide +kernel
theorem dX6_init_135 : decode cX6_init 135 = .ok (.bipush 12, 2) := by decide +kernel
theorem dX6_init_137 : decode cX6_init 137 = .ok (.newarray .int, 2) := by decide +kernel
theorem dX6_init_139 : decode cX6_init 139 = .ok (.putfield 64, 3) := by decide +kernel
theorem dX6_init_142 : decode cX6_init 142 = .ok (.aload_n 0, 1) := by decide +kernel
theorem dX6_init_143 : decode cX6_init 143 = .ok (.sipush 192, 3) := by decide +kernel
theorem dX6_init_146 : decode cX6_init 146 = .ok (.newarray .int, 2) := by decide +kernel
theorem dX6_init_148 : decode cX6_init 148 = .ok (.putfield 67, 3) := by decide +kernel
theorem dX6_init_151 : decode cX6_init 151 = .ok (.aload_n 0, 1) := by decide +kernel
theorem dX6_init_152 : decode cX6_init 152 = .ok (.bipush 12, 2) := by decide +kernel
theorem dX6_init_154 : decode cX6_init 154 = .ok (.newarray .boolean, 2) := by decide +kernel
theorem dX6_init_156 : decode cX6_init 156 = .ok (.putfield 70, 3) := by decide +kernel
theorem dX6_init_159 : decode cX6_init 159 = .ok (.aload_n 0, 1) := by decide +kernel
theorem dX6_init_160 : decode cX6_init 160 = .ok (.iconst 4, 1) := by decide +kernel
theorem dX6_init_161 : decode cX6_init 161 = .ok (.newarray .int, 2) := by decide +kernel
theorem dX6_init_163 : decode cX6_init 163 = .ok (.putfield 73, 3) := by decide +kernel
theorem dX6_init_166 : decode cX6_init 166 = .ok (.aload_n 0, 1) := by decide +kernel
theorem dX6_init_167 : decode cX6_init 167 = .ok (.iconst 4, 1) := by decide +kernel
theorem dX6_init_168 : decode cX6_init 168 = .ok (.newarray .int, 2) := by decide +kernel
theorem dX6_init_170 : decode cX6_init 170 = .ok (.putfield 76, 3) := by decide +kernel
theorem dX6_init_173 : decode cX6_init 173 = .ok (.aload_n 0, 1) := by decide +kernel
theorem dX6_init_174 : decode cX6_init 174 = .ok (.sipush 800, 3) := by decide +kernel
theorem dX6_init_177 : decode cX6_init 177 = .ok (.newarray .long, 2) := by decide +kernel
theorem dX6_init_179 : decode cX6_init 179 = .ok (.putfield 79, 3) := by decide +kernel
theorem dX6_init_182 : decode cX6_init 182 = .ok (.aload_n 0, 1) := by decide +kernel
theorem dX6_init_183 : decode cX6_init 183 = .ok (.sipush 800, 3) := by decide +kernel
theorem dX6_init_186 : decode cX6_init 186 = .ok (.newarray .int, 2) := by decide +kernel
theorem dX6_init_188 : decode cX6_init 188 = .ok (.putfield 82, 3) := by decide +kernel
theorem dX6_init_191 : decode cX6_init 191 = .ok (.aload_n 0, 1) := by decide +kernel
theorem dX6_init_192 : decode cX6_init 192 = .ok (.sipush 704, 3) := by decide +kernel
theorem dX6_init_195 : decode cX6_init 195 = .ok (.newarray .long, 2) := by decide +kernel
theorem dX6_init_197 : decode cX6_init 197 = .ok (.putfield 85, 3) := by decide +kernel
theorem dX6_init_200 : decode cX6_init 200 = .ok (.aload_n 0, 1) := by decide +kernel
theorem dX6_init_201 : decode cX6_init 201 = .ok (.sipush 704, 3) := by decide +kernel
theorem dX6_init_204 : decode cX6_init 204 = .ok (.newarray .int, 2) := by decide +kernel
theorem dX6_init_206 : decode cX6_init 206 = .ok (.putfield 88, 3) := by decide +kernel
theorem dX6_init_209 : decode cX6_init 209 = .ok (.aload_n 0, 1) := by decide +kernel
theorem dX6_init_210 : decode cX6_init 210 = .ok (.bipush 20, 2) := by decide +kernel
theorem dX6_init_212 : decode cX6_init 212 = .ok (.newarray .int, 2) := by decide +kernel
theorem dX6_init_214 : decode cX6_init 214 = .ok (.putfield 91, 3) := by decide +kernel
theorem dX6_init_217 : decode cX6_init 217 = .ok (.aload_n 0, 1) := by decide +kernel
theorem dX6_init_218 : decode cX6_init 218 = .ok (.bipush 20, 2) := by decide +kernel
theorem dX6_init_220 : decode cX6_init 220 = .ok (.newarray .int, 2) := by decide +kernel
theorem dX6_init_222 : decode cX6_init 222 = .ok (.putfield 94, 3) := by decide +kernel
theorem dX6_init_225 : decode cX6_init 225 = .ok (.aload_n 0, 1) := by decide +kernel
theorem dX6_init_226 : decode cX6_init 226 = .ok (.bipush 20, 2) := by decide +kernel
theorem dX6_init_228 : decode cX6_init 228 = .ok (.newarray .int, 2) := by decide +kernel
theorem dX6_init_230 : decode cX6_init 230 = .ok (.putfield 97, 3) := by decide +kernel
theorem dX6_init_233 : decode cX6_init 233 = .ok (.aload_n 0, 1) := by decide +kernel
theorem dX6_init_234 : decode cX6_init 234 = .ok (.bipush 20, 2) := by decide +kernel
theorem dX6_init_236 : decode cX6_init 236 = .ok (.newarray .int, 2) := by decide +kernel
theorem dX6_init_238 : decode cX6_init 238 = .ok (.putfield 100, 3) := by decide +kernel
theorem dX6_init_241 : decode cX6_init 241 = .ok (.aload_n 0, 1) := by decide +kernel
theorem dX6_init_242 : decode cX6_init 242 = .ok (.invokevirtual 103, 3) := by decide +kernel
theorem dX6_init_245 : decode cX6_init 245 = .ok (.return_, 1) := by decide +kernel
theorem dX6_in_0 : decode cX6_in 0 = .ok (.iload_n 0, 1) := by decide +kernel
theorem dX6_in_1 : decode cX6_in 1 = .ok (.iload_n 1, 1) := by decide +kernel
theorem dX6_in_2 : decode cX6_in 2 = .ok (.if_icmp .lt 12, 3) := by decide +kernel
theorem dX6_in_5 : decode cX6_in 5 = .ok (.iload_n 0, 1) := by decide +kernel
theorem dX6_in_6 : decode cX6_in 6 = .ok (.iload_n 2, 1) := by decide +kernel
theorem dX6_in_7 : decode cX6_in 7 = .ok (.if_icmp .gt 7, 3) := by decide +kernel
theorem dX6_in_10 : decode cX6_in 10 = .ok (.iconst 1, 1) := by decide +kernel
theorem dX6_in_11 : decode cX6_in 11 = .ok (.goto 4, 3) := by decide +kernel
theorem dX6_in_14 : decode cX6_in 14 = .ok (.iconst 0, 1) := by decide +kernel
theorem dX6_in_15 : decode cX6_in 15 = .ok (.ireturn, 1) := by decide +kernel
theorem dX6_begins_0 : decode cX6_begins 0 = .ok (.aload_n 0, 1) := by decide +kernel
theorem dX6_begins_1 : decode cX6_begins 1 = .ok (.iconst 0, 1) := by decide +kernel
theorem dX6_begins_2 : decode cX6_begins 2 = .ok (.putfield 109, 3) := by decide +kernel
theorem dX6_begins_5 : decode cX6_begins 5 = .ok (.aload_n 0, 1) := by decide +kernel
theorem dX6_begins_6 : decode cX6_begins 6 = .ok (.iconst 0, 1) := by decide +kernel
theorem dX6_begins_7 : decode cX6_begins 7 = .ok (.putfield 112, 3) := by decide +kernel
theorem dX6_begins_10 : decode cX6_begins 10 = .ok (.iconst 0, 1) := by decide +kernel
theorem dX6_begins_11 : decode cX6_begins 11 = .ok (.istore_n 1, 1) := by decide +kernel
theorem dX6_begins_12 : decode cX6_begins 12 = .ok (.iload_n 1, 1) := by decide +kernel
theorem dX6_begins_13 : decode cX6_begins 13 = .ok (.iconst 4, 1) := by decide +kernel
theorem dX6_begins_14 : decode cX6_begins 14 = .ok (.if_icmp .ge 39, 3) := by decide +kernel
theorem dX6_begins_17 : decode cX6_begins 17 = .ok (.aload_n 0, 1) := by decide +kernel
theorem dX6_begins_18 : decode cX6_begins 18 = .ok (.getfield 13, 3) := by decide +kernel
theorem dX6_begins_21 : decode cX6_begins 21 = .ok (.iload_n 1, 1) := by decide +kernel
theorem dX6_begins_22 : decode cX6_begins 22 = .ok (.iconst 0, 1) := by decide +kernel
theorem dX6_begins_23 : decode cX6_begins 23 = .ok (.iastore, 1) := by decide +kernel
theorem dX6_begins_24 : decode cX6_begins 24 = .ok (.aload_n 0, 1) := by decide +kernel
theorem dX6_begins_25 : decode cX6_begins 25 = .ok (.getfield 30, 3) := by decide +kernel
theorem dX6_begins_28 : decode cX6_begins 28 = .ok (.iload_n 1, 1) := by decide +kernel
theorem dX6_begins_29 : decode cX6_begins 29 = .ok (.bipush (-9), 2) := by decide +kernel
theorem dX6_begins_31 : decode cX6_begins 31 = .ok (.iastore, 1) := by decide +kernel
theorem dX6_begins_32 : decode cX6_begins 32 = .ok (.aload_n 0, 1) := by decide +kernel
theorem dX6_begins_33 : decode cX6_begins 33 = .ok (.getfield 73, 3) := by decide +kernel
theorem dX6_begins_36 : decode cX6_begins 36 = .ok (.iload_n 1, 1) := by decide +kernel
theorem dX6_begins_37 : decode cX6_begins 37 = .ok (.bipush 20, 2) := by decide +kernel
theorem dX6_begins_39 : decode cX6_begins 39 = .ok (.iastore, 1) := by decide +kernel
theorem dX6_begins_40 : decode cX6_begins 40 = .ok (.aload_n 0, 1) := by decide +kernel
theorem dX6_begins_41 : decode cX6_begins 41 = .ok (.getfield 76, 3) := by decide +kernel
theorem dX6_begins_44 : decode cX6_begins 44 = .ok (.iload_n 1, 1) := by decide +kernel
theorem dX6_begins_45 : decode cX6_begins 45 = .ok (.iconst 0, 1) := by decide +kernel
theorem dX6_begins_46 : decode cX6_begins 46 = .ok (.iastore, 1) := by decide +kernel
theorem dX6_begins_47 : decode cX6_begins 47 = .ok (.iinc 1 1, 3) := by decide +kernel
theorem dX6_begins_50 : decode cX6_begins 50 = .ok (.goto (-38), 3) := by decide +kernel
theorem dX6_begins_53 : decode cX6_begins 53 = .ok (.iconst 0, 1) := by decide +kernel
theorem dX6_begins_54 : decode cX6_begins 54 = .ok (.istore_n 1, 1) := by decide +kernel
theorem dX6_begins_55 : decode cX6_begins 55 = .ok (.iload_n 1, 1) := by decide +kernel
theorem dX6_begins_56 : decode cX6_begins 56 = .ok (.bipush 16, 2) := by decide +kernel
theorem dX6_begins_58 : decode cX6_begins 58 = .ok (.if_icmp .ge 16, 3) := by decide +kernel
theorem dX6_begins_61 : decode cX6_begins 61 = .ok (.aload_n 0, 1) := by decide +kernel
theorem dX6_begins_62 : decode cX6_begins 62 = .ok (.getfield 24, 3) := by decide +kernel
theorem dX6_begins_65 : decode cX6_begins 65 = .ok (.iload_n 1, 1) := by decide +kernel
theorem dX6_begins_66 : decode cX6_begins 66 = .ok (.iconst 0, 1) := by decide +kernel
theorem dX6_begins_67 : decode cX6_begins 67 = .ok (.iastore, 1) := by decide +kernel
theorem dX6_begins_68 : decode cX6_begins 68 = .ok (.iinc 1 1, 3) := by decide +kernel
theorem dX6_begins_71 : decode cX6_begins 71 = .ok (.goto (-16), 3) := by decide +kernel
theorem dX6_begins_74 : decode cX6_begins 74 = .ok (.return_, 1) := by decide +kernel
theorem dX6_isMachine_0 : decode cX6_isMachine 0 = .ok (.iload_n 1, 1) := by decide +kernel
theorem dX6_isMachine_1 : decode cX6_isMachine 1 = .ok (.iconst 0, 1) := by decide +kernel
theorem dX6_isMachine_2 : decode cX6_isMachine 2 = .ok (.aload_n 0, 1) := by decide +kernel
theorem dX6_isMachine_3 : decode cX6_isMachine 3 = .ok (.getfield 7, 3) := by decide +kernel
theorem dX6_isMachine_6 : decode cX6_isMachine 6 = .ok (.iconst 1, 1) := by decide +kernel
theorem dX6_isMachine_7 : decode cX6_isMachine 7 = .ok (.isub, 1) := by decide +kernel
theorem dX6_isMachine_8 : decode cX6_isMachine 8 = .ok (.invokestatic 115, 3) := by decide +kernel
theorem dX6_isMachine_11 : decode cX6_isMachine 11 = .ok (.ireturn, 1) := by decide +kernel
theorem dX6_isThing_0 : decode cX6_isThing 0 = .ok (.iload_n 0, 1) := by decide +kernel
theorem dX6_isThing_1 : decode cX6_isThing 1 = .ok (.iconst 0, 1) := by decide +kernel
theorem dX6_isThing_2 : decode cX6_isThing 2 = .ok (.bipush 11, 2) := by decide +kernel
theorem dX6_isThing_4 : decode cX6_isThing 4 = .ok (.invokestatic 115, 3) := by decide +kernel
theorem dX6_isThing_7 : decode cX6_isThing 7 = .ok (.ireturn, 1) := by decide +kernel
theorem dX6_isDay_0 : decode cX6_isDay 0 = .ok (.iload_n 1, 1) := by decide +kernel
theorem dX6_isDay_1 : decode cX6_isDay 1 = .ok (.iconst 0, 1) := by decide +kernel
theorem dX6_isDay_2 : decode cX6_isDay 2 = .ok (.aload_n 0, 1) := by decide +kernel
theorem dX6_isDay_3 : decode cX6_isDay 3 = .ok (.getfield 109, 3) := by decide +kernel
theorem dX6_isDay_6 : decode cX6_isDay 6 = .ok (.invokestatic 115, 3) := by decide +kernel
theorem dX6_isDay_9 : decode cX6_isDay 9 = .ok (.ireturn, 1) := by decide +kernel
theorem dX6_changeAt_0 : decode cX6_changeAt 0 = .ok (.bipush 12, 2) := by decide +kernel
theorem dX6_changeAt_2 : decode cX6_changeAt 2 = .ok (.bipush 20, 2) := by decide +kernel
theorem dX6_changeAt_4 : decode cX6_changeAt 4 = .ok (.iload_n 0, 1) := by decide +kernel
theorem dX6_changeAt_5 : decode cX6_changeAt 5 = .ok (.imul, 1) := by decide +kernel
theorem dX6_changeAt_6 : decode cX6_changeAt 6 = .ok (.iload_n 1, 1) := by decide +kernel
theorem dX6_changeAt_7 : decode cX6_changeAt 7 = .ok (.iadd, 1) := by decide +kernel
theorem dX6_changeAt_8 : decode cX6_changeAt 8 = .ok (.imul, 1) := by decide +kernel
theorem dX6_changeAt_9 : decode cX6_changeAt 9 = .ok (.ireturn, 1) := by decide +kernel
theorem dX6_first_0 : decode cX6_first 0 = .ok (.bipush (-9), 2) := by decide +kernel
theorem dX6_first_2 : decode cX6_first 2 = .ok (.istore_n 2, 1) := by decide +kernel
theorem dX6_first_3 : decode cX6_first 3 = .ok (.iconst 0, 1) := by decide +kernel
theorem dX6_first_4 : decode cX6_first 4 = .ok (.istore_n 3, 1) := by decide +kernel
theorem dX6_first_5 : decode cX6_first 5 = .ok (.iload_n 3, 1) := by decide +kernel
theorem dX6_first_6 : decode cX6_first 6 = .ok (.aload_n 0, 1) := by decide +kernel
theorem dX6_first_7 : decode cX6_first 7 = .ok (.getfield 7, 3) := by decide +kernel
theorem dX6_first_10 : decode cX6_first 10 = .ok (.if_icmp .ge 66, 3) := by decide +kernel
theorem dX6_first_13 : decode cX6_first 13 = .ok (.aload_n 0, 1) := by decide +kernel
theorem dX6_first_14 : decode cX6_first 14 = .ok (.getfield 36, 3) := by decide +kernel
theorem dX6_first_17 : decode cX6_first 17 = .ok (.iload_n 3, 1) := by decide +kernel
theorem dX6_first_18 : decode cX6_first 18 = .ok (.iaload, 1) := by decide +kernel
theorem dX6_first_19 : decode cX6_first 19 = .ok (.aload_n 1, 1) := by decide +kernel
theorem dX6_first_20 : decode cX6_first 20 = .ok (.iload_n 3, 1) := by decide +kernel
theorem dX6_first_21 : decode cX6_first 21 = .ok (.iaload, 1) := by decide +kernel
theorem dX6_first_22 : decode cX6_first 22 = .ok (.if_icmp .ge 48, 3) := by decide +kernel
theorem dX6_first_25 : decode cX6_first 25 = .ok (.iload_n 2, 1) := by decide +kernel
theorem dX6_first_26 : decode cX6_first 26 = .ok (.bipush (-9), 2) := by decide +kernel
theorem dX6_first_28 : decode cX6_first 28 = .ok (.if_icmp .eq 40, 3) := by decide +kernel
theorem dX6_first_31 : decode cX6_first 31 = .ok (.aload_n 0, 1) := by decide +kernel
theorem dX6_first_32 : decode cX6_first 32 = .ok (.getfield 17, 3) := by decide +kernel
theorem dX6_first_35 : decode cX6_first 35 = .ok (.iload_n 3, 1) := by decide +kernel
theorem dX6_first_36 : decode cX6_first 36 = .ok (.aload_n 0, 1) := by decide +kernel
theorem dX6_first_37 : decode cX6_first 37 = .ok (.getfield 36, 3) := by decide +kernel
theorem dX6_first_40 : decode cX6_first 40 = .ok (.iload_n 3, 1) := by decide +kernel
theorem dX6_first_41 : decode cX6_first 41 = .ok (.iaload, 1) := by decide +kernel
theorem dX6_first_42 : decode cX6_first 42 = .ok (.invokestatic 119, 3) := by decide +kernel
theorem dX6_first_45 : decode cX6_first 45 = .ok (.iconst 4, 1) := by decide +kernel
theorem dX6_first_46 : decode cX6_first 46 = .ok (.iadd, 1) := by decide +kernel
theorem dX6_first_47 : decode cX6_first 47 = .ok (.iaload, 1) := by decide +kernel
theorem dX6_first_48 : decode cX6_first 48 = .ok (.aload_n 0, 1) := by decide +kernel
theorem dX6_first_49 : decode cX6_first 49 = .ok (.getfield 17, 3) := by decide +kernel
theorem dX6_first_52 : decode cX6_first 52 = .ok (.iload_n 2, 1) := by decide +kernel
theorem dX6_first_53 : decode cX6_first 53 = .ok (.aload_n 0, 1) := by decide +kernel
theorem dX6_first_54 : decode cX6_first 54 = .ok (.getfield 36, 3) := by decide +kernel
theorem dX6_first_57 : decode cX6_first 57 = .ok (.iload_n 2, 1) := by decide +kernel
theorem dX6_first_58 : decode cX6_first 58 = .ok (.iaload, 1) := by decide +kernel
theorem dX6_first_59 : decode cX6_first 59 = .ok (.invokestatic 119, 3) := by decide +kernel
theorem dX6_first_62 : decode cX6_first 62 = .ok (.iconst 4, 1) := by decide +kernel
theorem dX6_first_63 : decode cX6_first 63 = .ok (.iadd, 1) := by decide +kernel
theorem dX6_first_64 : decode cX6_first 64 = .ok (.iaload, 1) := by decide +kernel
theorem dX6_first_65 : decode cX6_first 65 = .ok (.if_icmp .ge 5, 3) := by decide +kernel
theorem dX6_first_68 : decode cX6_first 68 = .ok (.iload_n 3, 1) := by decide +kernel
theorem dX6_first_69 : decode cX6_first 69 = .ok (.istore_n 2, 1) := by decide +kernel
theorem dX6_first_70 : decode cX6_first 70 = .ok (.iinc 3 1, 3) := by decide +kernel
theorem dX6_first_73 : decode cX6_first 73 = .ok (.goto (-68), 3) := by decide +kernel
theorem dX6_first_76 : decode cX6_first 76 = .ok (.iload_n 2, 1) := by decide +kernel
theorem dX6_first_77 : decode cX6_first 77 = .ok (.ireturn, 1) := by decide +kernel
theorem dX6_restarts_0 : decode cX6_restarts 0 = .ok (.iconst 0, 1) := by decide +kernel
theorem dX6_restarts_1 : decode cX6_restarts 1 = .ok (.istore_n 1, 1) := by decide +kernel
theorem dX6_restarts_2 : decode cX6_restarts 2 = .ok (.iload_n 1, 1) := by decide +kernel
theorem dX6_restarts_3 : decode cX6_restarts 3 = .ok (.iconst 4, 1) := by decide +kernel
theorem dX6_restarts_4 : decode cX6_restarts 4 = .ok (.if_icmp .ge 16, 3) := by decide +kernel
theorem dX6_restarts_7 : decode cX6_restarts 7 = .ok (.aload_n 0, 1) := by decide +kernel
theorem dX6_restarts_8 : decode cX6_restarts 8 = .ok (.getfield 36, 3) := by decide +kernel
theorem dX6_restarts_11 : decode cX6_restarts 11 = .ok (.iload_n 1, 1) := by decide +kernel
theorem dX6_restarts_12 : decode cX6_restarts 12 = .ok (.iconst 0, 1) := by decide +kernel
theorem dX6_restarts_13 : decode cX6_restarts 13 = .ok (.iastore, 1) := by decide +kernel
theorem dX6_restarts_14 : decode cX6_restarts 14 = .ok (.iinc 1 1, 3) := by decide +kernel
theorem dX6_restarts_17 : decode cX6_restarts 17 = .ok (.goto (-15), 3) := by decide +kernel
theorem dX6_restarts_20 : decode cX6_restarts 20 = .ok (.return_, 1) := by decide +kernel
theorem dX6_leaves_0 : decode cX6_leaves 0 = .ok (.aload_n 0, 1) := by decide +kernel
theorem dX6_leaves_1 : decode cX6_leaves 1 = .ok (.invokevirtual 123, 3) := by decide +kernel
theorem dX6_leaves_4 : decode cX6_leaves 4 = .ok (.iconst 0, 1) := by decide +kernel
theorem dX6_leaves_5 : decode cX6_leaves 5 = .ok (.istore_n 1, 1) := by decide +kernel
theorem dX6_leaves_6 : decode cX6_leaves 6 = .ok (.iload_n 1, 1) := by decide +kernel
theorem dX6_leaves_7 : decode cX6_leaves 7 = .ok (.iconst 4, 1) := by decide +kernel
theorem dX6_leaves_8 : decode cX6_leaves 8 = .ok (.if_icmp .ge 17, 3) := by decide +kernel
theorem dX6_leaves_11 : decode cX6_leaves 11 = .ok (.aload_n 0, 1) := by decide +kernel
theorem dX6_leaves_12 : decode cX6_leaves 12 = .ok (.getfield 33, 3) := by decide +kernel
theorem dX6_leaves_15 : decode cX6_leaves 15 = .ok (.iload_n 1, 1) := by decide +kernel
theorem dX6_leaves_16 : decode cX6_leaves 16 = .ok (.bipush 20, 2) := by decide +kernel
theorem dX6_leaves_18 : decode cX6_leaves 18 = .ok (.iastore, 1) := by decide +kernel
theorem dX6_leaves_19 : decode cX6_leaves 19 = .ok (.iinc 1 1, 3) := by decide +kernel
theorem dX6_leaves_22 : decode cX6_leaves 22 = .ok (.goto (-16), 3) := by decide +kernel
theorem dX6_leaves_25 : decode cX6_leaves 25 = .ok (.aload_n 0, 1) := by decide +kernel
theorem dX6_leaves_26 : decode cX6_leaves 26 = .ok (.aload_n 0, 1) := by decide +kernel
theorem dX6_leaves_27 : decode cX6_leaves 27 = .ok (.getfield 13, 3) := by decide +kernel
theorem dX6_leaves_30 : decode cX6_leaves 30 = .ok (.invokevirtual 126, 3) := by decide +kernel
theorem dX6_leaves_33 : decode cX6_leaves 33 = .ok (.istore_n 1, 1) := by decide +kernel
theorem dX6_leaves_34 : decode cX6_leaves 34 = .ok (.iload_n 1, 1) := by decide +kernel
theorem dX6_leaves_35 : decode cX6_leaves 35 = .ok (.bipush (-9), 2) := by decide +kernel
theorem dX6_leaves_37 : decode cX6_leaves 37 = .ok (.if_icmp .eq 156, 3) := by decide +kernel
theorem dX6_leaves_40 : decode cX6_leaves 40 = .ok (.iload_n 1, 1) := by decide +kernel
theorem dX6_leaves_41 : decode cX6_leaves 41 = .ok (.aload_n 0, 1) := by decide +kernel
theorem dX6_leaves_42 : decode cX6_leaves 42 = .ok (.getfield 36, 3) := by decide +kernel
theorem dX6_leaves_45 : decode cX6_leaves 45 = .ok (.iload_n 1, 1) := by decide +kernel
theorem dX6_leaves_46 : decode cX6_leaves 46 = .ok (.iaload, 1) := by decide +kernel
theorem dX6_leaves_47 : decode cX6_leaves 47 = .ok (.invokestatic 119, 3) := by decide +kernel
theorem dX6_leaves_50 : decode cX6_leaves 50 = .ok (.istore_n 2, 1) := by decide +kernel
theorem dX6_leaves_51 : decode cX6_leaves 51 = .ok (.aload_n 0, 1) := by decide +kernel
theorem dX6_leaves_52 : decode cX6_leaves 52 = .ok (.getfield 30, 3) := by decide +kernel
theorem dX6_leaves_55 : decode cX6_leaves 55 = .ok (.iload_n 1, 1) := by decide +kernel
theorem dX6_leaves_56 : decode cX6_leaves 56 = .ok (.iaload, 1) := by decide +kernel
theorem dX6_leaves_57 : decode cX6_leaves 57 = .ok (.bipush (-9), 2) := by decide +kernel
theorem dX6_leaves_59 : decode cX6_leaves 59 = .ok (.if_icmp .eq 22, 3) := by decide +kernel
theorem dX6_leaves_62 : decode cX6_leaves 62 = .ok (.aload_n 0, 1) := by decide +kernel
theorem dX6_leaves_63 : decode cX6_leaves 63 = .ok (.getfield 36, 3) := by decide +kernel
theorem dX6_leaves_66 : decode cX6_leaves 66 = .ok (.iload_n 1, 1) := by decide +kernel
theorem dX6_leaves_67 : decode cX6_leaves 67 = .ok (.iaload, 1) := by decide +kernel
theorem dX6_leaves_68 : decode cX6_leaves 68 = .ok (.aload_n 0, 1) := by decide +kernel
theorem dX6_leaves_69 : decode cX6_leaves 69 = .ok (.getfield 30, 3) := by decide +kernel
theorem dX6_leaves_72 : decode cX6_leaves 72 = .ok (.iload_n 1, 1) := by decide +kernel
theorem dX6_leaves_73 : decode cX6_leaves 73 = .ok (.iaload, 1) := by decide +kernel
theorem dX6_leaves_74 : decode cX6_leaves 74 = .ok (.if_icmp .lt 7, 3) := by decide +kernel
theorem dX6_leaves_77 : decode cX6_leaves 77 = .ok (.iconst 1, 1) := by decide +kernel
theorem dX6_leaves_78 : decode cX6_leaves 78 = .ok (.goto 4, 3) := by decide +kernel
theorem dX6_leaves_81 : decode cX6_leaves 81 = .ok (.iconst 0, 1) := by decide +kernel
theorem dX6_leaves_82 : decode cX6_leaves 82 = .ok (.istore_n 3, 1) := by decide +kernel
theorem dX6_leaves_83 : decode cX6_leaves 83 = .ok (.iconst 0, 1) := by decide +kernel
theorem dX6_leaves_84 : decode cX6_leaves 84 = .ok (.istore 4, 2) := by decide +kernel
theorem dX6_leaves_86 : decode cX6_leaves 86 = .ok (.iload 4, 2) := by decide +kernel
theorem dX6_leaves_88 : decode cX6_leaves 88 = .ok (.aload_n 0, 1) := by decide +kernel
theorem dX6_leaves_89 : decode cX6_leaves 89 = .ok (.getfield 7, 3) := by decide +kernel
theorem dX6_leaves_92 : decode cX6_leaves 92 = .ok (.if_icmp .ge 39, 3) := by decide +kernel
theorem dX6_leaves_95 : decode cX6_leaves 95 = .ok (.iload_n 3, 1) := by decide +kernel
theorem dX6_leaves_96 : decode cX6_leaves 96 = .ok (.aload_n 0, 1) := by decide +kernel
theorem dX6_leaves_97 : decode cX6_leaves 97 = .ok (.getfield 33, 3) := by decide +kernel
theorem dX6_leaves_100 : decode cX6_leaves 100 = .ok (.iload 4, 2) := by decide +kernel
theorem dX6_leaves_102 : decode cX6_leaves 102 = .ok (.iaload, 1) := by decide +kernel
theorem dX6_leaves_103 : decode cX6_leaves 103 = .ok (.aload_n 0, 1) := by decide +kernel
theorem dX6_leaves_104 : decode cX6_leaves 104 = .ok (.getfield 17, 3) := by decide +kernel
theorem dX6_leaves_107 : decode cX6_leaves 107 = .ok (.iload_n 2, 1) := by decide +kernel
theorem dX6_leaves_108 : decode cX6_leaves 108 = .ok (.bipush 6, 2) := by decide +kernel
theorem dX6_leaves_110 : decode cX6_leaves 110 = .ok (.iadd, 1) := by decide +kernel
theorem dX6_leaves_111 : decode cX6_leaves 111 = .ok (.iload 4, 2) := by decide +kernel
theorem dX6_leaves_113 : decode cX6_leaves 113 = .ok (.iadd, 1) := by decide +kernel
theorem dX6_leaves_114 : decode cX6_leaves 114 = .ok (.iaload, 1) := by decide +kernel
theorem dX6_leaves_115 : decode cX6_leaves 115 = .ok (.if_icmp .ge 7, 3) := by decide +kernel
theorem dX6_leaves_118 : decode cX6_leaves 118 = .ok (.iconst 1, 1) := by decide +kernel
theorem dX6_leaves_119 : decode cX6_leaves 119 = .ok (.goto 4, 3) := by decide +kernel
theorem dX6_leaves_122 : decode cX6_leaves 122 = .ok (.iconst 0, 1) := by decide +kernel
theorem dX6_leaves_123 : decode cX6_leaves 123 = .ok (.ior, 1) := by decide +kernel
theorem dX6_leaves_124 : decode cX6_leaves 124 = .ok (.istore_n 3, 1) := by decide +kernel
theorem dX6_leaves_125 : decode cX6_leaves 125 = .ok (.iinc 4 1, 3) := by decide +kernel
theorem dX6_leaves_128 : decode cX6_leaves 128 = .ok (.goto (-42), 3) := by decide +kernel
theorem dX6_leaves_131 : decode cX6_leaves 131 = .ok (.aload_n 0, 1) := by decide +kernel
theorem dX6_leaves_132 : decode cX6_leaves 132 = .ok (.getfield 33, 3) := by decide +kernel
theorem dX6_leaves_135 : decode cX6_leaves 135 = .ok (.iload_n 1, 1) := by decide +kernel
theorem dX6_leaves_136 : decode cX6_leaves 136 = .ok (.iload_n 3, 1) := by decide +kernel
theorem dX6_leaves_137 : decode cX6_leaves 137 = .ok (.ifCond .eq 27, 3) := by decide +kernel
theorem dX6_leaves_140 : decode cX6_leaves 140 = .ok (.aload_n 0, 1) := by decide +kernel
theorem dX6_leaves_141 : decode cX6_leaves 141 = .ok (.getfield 36, 3) := by decide +kernel
theorem dX6_leaves_144 : decode cX6_leaves 144 = .ok (.iload_n 1, 1) := by decide +kernel
theorem dX6_leaves_145 : decode cX6_leaves 145 = .ok (.iaload, 1) := by decide +kernel
theorem dX6_leaves_146 : decode cX6_leaves 146 = .ok (.aload_n 0, 1) := by decide +kernel
theorem dX6_leaves_147 : decode cX6_leaves 147 = .ok (.getfield 33, 3) := by decide +kernel
theorem dX6_leaves_150 : decode cX6_leaves 150 = .ok (.iload_n 1, 1) := by decide +kernel
theorem dX6_leaves_151 : decode cX6_leaves 151 = .ok (.iaload, 1) := by decide +kernel
theorem dX6_leaves_152 : decode cX6_leaves 152 = .ok (.if_icmp .ge 12, 3) := by decide +kernel
theorem dX6_leaves_155 : decode cX6_leaves 155 = .ok (.aload_n 0, 1) := by decide +kernel
theorem dX6_leaves_156 : decode cX6_leaves 156 = .ok (.getfield 36, 3) := by decide +kernel
theorem dX6_leaves_159 : decode cX6_leaves 159 = .ok (.iload_n 1, 1) := by decide +kernel
theorem dX6_leaves_160 : decode cX6_leaves 160 = .ok (.iaload, 1) := by decide +kernel
theorem dX6_leaves_161 : decode cX6_leaves 161 = .ok (.goto 9, 3) := by decide +kernel
theorem dX6_leaves_164 : decode cX6_leaves 164 = .ok (.aload_n 0, 1) := by decide +kernel
theorem dX6_leaves_165 : decode cX6_leaves 165 = .ok (.getfield 33, 3) := by decide +kernel
theorem dX6_leaves_168 : decode cX6_leaves 168 = .ok (.iload_n 1, 1) := by decide +kernel
theorem dX6_leaves_169 : decode cX6_leaves 169 = .ok (.iaload, 1) := by decide +kernel
theorem dX6_leaves_170 : decode cX6_leaves 170 = .ok (.iastore, 1) := by decide +kernel
theorem dX6_leaves_171 : decode cX6_leaves 171 = .ok (.aload_n 0, 1) := by decide +kernel
theorem dX6_leaves_172 : decode cX6_leaves 172 = .ok (.getfield 36, 3) := by decide +kernel
theorem dX6_leaves_175 : decode cX6_leaves 175 = .ok (.iload_n 1, 1) := by decide +kernel
theorem dX6_leaves_176 : decode cX6_leaves 176 = .ok (.dup2, 1) := by decide +kernel
theorem dX6_leaves_177 : decode cX6_leaves 177 = .ok (.iaload, 1) := by decide +kernel
theorem dX6_leaves_178 : decode cX6_leaves 178 = .ok (.iconst 1, 1) := by decide +kernel
theorem dX6_leaves_179 : decode cX6_leaves 179 = .ok (.iadd, 1) := by decide +kernel
theorem dX6_leaves_180 : decode cX6_leaves 180 = .ok (.iastore, 1) := by decide +kernel
theorem dX6_leaves_181 : decode cX6_leaves 181 = .ok (.aload_n 0, 1) := by decide +kernel
theorem dX6_leaves_182 : decode cX6_leaves 182 = .ok (.aload_n 0, 1) := by decide +kernel
theorem dX6_leaves_183 : decode cX6_leaves 183 = .ok (.getfield 13, 3) := by decide +kernel
theorem dX6_leaves_186 : decode cX6_leaves 186 = .ok (.invokevirtual 126, 3) := by decide +kernel
theorem dX6_leaves_189 : decode cX6_leaves 189 = .ok (.istore_n 1, 1) := by decide +kernel
theorem dX6_leaves_190 : decode cX6_leaves 190 = .ok (.goto (-156), 3) := by decide +kernel
theorem dX6_leaves_193 : decode cX6_leaves 193 = .ok (.return_, 1) := by decide +kernel
theorem dX6_isFolder_0 : decode cX6_isFolder 0 = .ok (.aload_n 0, 1) := by decide +kernel
theorem dX6_isFolder_1 : decode cX6_isFolder 1 = .ok (.getfield 46, 3) := by decide +kernel
theorem dX6_isFolder_4 : decode cX6_isFolder 4 = .ok (.iload_n 1, 1) := by decide +kernel
theorem dX6_isFolder_5 : decode cX6_isFolder 5 = .ok (.baload, 1) := by decide +kernel
theorem dX6_isFolder_6 : decode cX6_isFolder 6 = .ok (.ifCond .eq 17, 3) := by decide +kernel
theorem dX6_isFolder_9 : decode cX6_isFolder 9 = .ok (.aload_n 0, 1) := by decide +kernel
theorem dX6_isFolder_10 : decode cX6_isFolder 10 = .ok (.getfield 49, 3) := by decide +kernel
theorem dX6_isFolder_13 : decode cX6_isFolder 13 = .ok (.iload_n 1, 1) := by decide +kernel
theorem dX6_isFolder_14 : decode cX6_isFolder 14 = .ok (.iaload, 1) := by decide +kernel
theorem dX6_isFolder_15 : decode cX6_isFolder 15 = .ok (.iconst 2, 1) := by decide +kernel
theorem dX6_isFolder_16 : decode cX6_isFolder 16 = .ok (.if_icmp .ne 7, 3) := by decide +kernel
theorem dX6_isFolder_19 : decode cX6_isFolder 19 = .ok (.iconst 1, 1) := by decide +kernel
theorem dX6_isFolder_20 : decode cX6_isFolder 20 = .ok (.goto 4, 3) := by decide +kernel
theorem dX6_isFolder_23 : decode cX6_isFolder 23 = .ok (.iconst 0, 1) := by decide +kernel
theorem dX6_isFolder_24 : decode cX6_isFolder 24 = .ok (.ireturn, 1) := by decide +kernel
theorem dX6_liesIn_0 : decode cX6_liesIn 0 = .ok (.iload_n 1, 1) := by decide +kernel
theorem dX6_liesIn_1 : decode cX6_liesIn 1 = .ok (.istore_n 3, 1) := by decide +kernel
theorem dX6_liesIn_2 : decode cX6_liesIn 2 = .ok (.iload_n 3, 1) := by decide +kernel
theorem dX6_liesIn_3 : decode cX6_liesIn 3 = .ok (.iload_n 2, 1) := by decide +kernel
theorem dX6_liesIn_4 : decode cX6_liesIn 4 = .ok (.if_icmp .eq 17, 3) := by decide +kernel
theorem dX6_liesIn_7 : decode cX6_liesIn 7 = .ok (.iload_n 3, 1) := by decide +kernel
theorem dX6_liesIn_8 : decode cX6_liesIn 8 = .ok (.ifCond .eq 13, 3) := by decide +kernel
theorem dX6_liesIn_11 : decode cX6_liesIn 11 = .ok (.aload_n 0, 1) := by decide +kernel
theorem dX6_liesIn_12 : decode cX6_liesIn 12 = .ok (.getfield 52, 3) := by decide +kernel
theorem dX6_liesIn_15 : decode cX6_liesIn 15 = .ok (.iload_n 3, 1) := by decide +kernel
theorem dX6_liesIn_16 : decode cX6_liesIn 16 = .ok (.iaload, 1) := by decide +kernel
theorem dX6_liesIn_17 : decode cX6_liesIn 17 = .ok (.istore_n 3, 1) := by decide +kernel
theorem dX6_liesIn_18 : decode cX6_liesIn 18 = .ok (.goto (-16), 3) := by decide +kernel
theorem dX6_liesIn_21 : decode cX6_liesIn 21 = .ok (.iload_n 3, 1) := by decide +kernel
theorem dX6_liesIn_22 : decode cX6_liesIn 22 = .ok (.iload_n 2, 1) := by decide +kernel
theorem dX6_liesIn_23 : decode cX6_liesIn 23 = .ok (.if_icmp .ne 7, 3) := by decide +kernel
theorem dX6_liesIn_26 : decode cX6_liesIn 26 = .ok (.iconst 1, 1) := by decide +kernel
theorem dX6_liesIn_27 : decode cX6_liesIn 27 = .ok (.goto 4, 3) := by decide +kernel
theorem dX6_liesIn_30 : decode cX6_liesIn 30 = .ok (.iconst 0, 1) := by decide +kernel
theorem dX6_liesIn_31 : decode cX6_liesIn 31 = .ok (.ireturn, 1) := by decide +kernel
theorem dX6_puts_0 : decode cX6_puts 0 = .ok (.aload_n 0, 1) := by decide +kernel
theorem dX6_puts_1 : decode cX6_puts 1 = .ok (.getfield 52, 3) := by decide +kernel
theorem dX6_puts_4 : decode cX6_puts 4 = .ok (.iload_n 1, 1) := by decide +kernel
theorem dX6_puts_5 : decode cX6_puts 5 = .ok (.iload_n 2, 1) := by decide +kernel
theorem dX6_puts_6 : decode cX6_puts 6 = .ok (.iastore, 1) := by decide +kernel
theorem dX6_puts_7 : decode cX6_puts 7 = .ok (.aload_n 0, 1) := by decide +kernel
theorem dX6_puts_8 : decode cX6_puts 8 = .ok (.getfield 55, 3) := by decide +kernel
theorem dX6_puts_11 : decode cX6_puts 11 = .ok (.iload_n 1, 1) := by decide +kernel
theorem dX6_puts_12 : decode cX6_puts 12 = .ok (.iload_n 3, 1) := by decide +kernel
theorem dX6_puts_13 : decode cX6_puts 13 = .ok (.iastore, 1) := by decide +kernel
theorem dX6_puts_14 : decode cX6_puts 14 = .ok (.aload_n 0, 1) := by decide +kernel
theorem dX6_puts_15 : decode cX6_puts 15 = .ok (.getfield 58, 3) := by decide +kernel
theorem dX6_puts_18 : decode cX6_puts 18 = .ok (.iload_n 1, 1) := by decide +kernel
theorem dX6_puts_19 : decode cX6_puts 19 = .ok (.iload 4, 2) := by decide +kernel
theorem dX6_puts_21 : decode cX6_puts 21 = .ok (.iastore, 1) := by decide +kernel
theorem dX6_puts_22 : decode cX6_puts 22 = .ok (.return_, 1) := by decide +kernel
theorem dX6_goes_0 : decode cX6_goes 0 = .ok (.iconst 1, 1) := by decide +kernel
theorem dX6_goes_1 : decode cX6_goes 1 = .ok (.istore_n 2, 1) := by decide +kernel
theorem dX6_goes_2 : decode cX6_goes 2 = .ok (.iload_n 2, 1) := by decide +kernel
theorem dX6_goes_3 : decode cX6_goes 3 = .ok (.bipush 12, 2) := by decide +kernel
theorem dX6_goes_5 : decode cX6_goes 5 = .ok (.if_icmp .ge 38, 3) := by decide +kernel
theorem dX6_goes_8 : decode cX6_goes 8 = .ok (.aload_n 0, 1) := by decide +kernel
theorem dX6_goes_9 : decode cX6_goes 9 = .ok (.getfield 70, 3) := by decide +kernel
theorem dX6_goes_12 : decode cX6_goes 12 = .ok (.iload_n 2, 1) := by decide +kernel
theorem dX6_goes_13 : decode cX6_goes 13 = .ok (.aload_n 0, 1) := by decide +kernel
theorem dX6_goes_14 : decode cX6_goes 14 = .ok (.getfield 46, 3) := by decide +kernel
theorem dX6_goes_17 : decode cX6_goes 17 = .ok (.iload_n 2, 1) := by decide +kernel
theorem dX6_goes_18 : decode cX6_goes 18 = .ok (.baload, 1) := by decide +kernel
theorem dX6_goes_19 : decode cX6_goes 19 = .ok (.ifCond .eq 16, 3) := by decide +kernel
theorem dX6_goes_22 : decode cX6_goes 22 = .ok (.aload_n 0, 1) := by decide +kernel
theorem dX6_goes_23 : decode cX6_goes 23 = .ok (.iload_n 2, 1) := by decide +kernel
theorem dX6_goes_24 : decode cX6_goes 24 = .ok (.iload_n 1, 1) := by decide +kernel
theorem dX6_goes_25 : decode cX6_goes 25 = .ok (.invokevirtual 130, 3) := by decide +kernel
theorem dX6_goes_28 : decode cX6_goes 28 = .ok (.ifCond .eq 7, 3) := by decide +kernel
theorem dX6_goes_31 : decode cX6_goes 31 = .ok (.iconst 1, 1) := by decide +kernel
theorem dX6_goes_32 : decode cX6_goes 32 = .ok (.goto 4, 3) := by decide +kernel
theorem dX6_goes_35 : decode cX6_goes 35 = .ok (.iconst 0, 1) := by decide +kernel
theorem dX6_goes_36 : decode cX6_goes 36 = .ok (.bastore, 1) := by decide +kernel
theorem dX6_goes_37 : decode cX6_goes 37 = .ok (.iinc 2 1, 3) := by decide +kernel
theorem dX6_goes_40 : decode cX6_goes 40 = .ok (.goto (-38), 3) := by decide +kernel
theorem dX6_goes_43 : decode cX6_goes 43 = .ok (.iconst 1, 1) := by decide +kernel
theorem dX6_goes_44 : decode cX6_goes 44 = .ok (.istore_n 2, 1) := by decide +kernel
theorem dX6_goes_45 : decode cX6_goes 45 = .ok (.iload_n 2, 1) := by decide +kernel
theorem dX6_goes_46 : decode cX6_goes 46 = .ok (.bipush 12, 2) := by decide +kernel
theorem dX6_goes_48 : decode cX6_goes 48 = .ok (.if_icmp .ge 32, 3) := by decide +kernel
theorem dX6_goes_51 : decode cX6_goes 51 = .ok (.aload_n 0, 1) := by decide +kernel
theorem dX6_goes_52 : decode cX6_goes 52 = .ok (.getfield 46, 3) := by decide +kernel
theorem dX6_goes_55 : decode cX6_goes 55 = .ok (.iload_n 2, 1) := by decide +kernel
theorem dX6_goes_56 : decode cX6_goes 56 = .ok (.dup2, 1) := by decide +kernel
theorem dX6_goes_57 : decode cX6_goes 57 = .ok (.baload, 1) := by decide +kernel
theorem dX6_goes_58 : decode cX6_goes 58 = .ok (.aload_n 0, 1) := by decide +kernel
theorem dX6_goes_59 : decode cX6_goes 59 = .ok (.getfield 70, 3) := by decide +kernel
theorem dX6_goes_62 : decode cX6_goes 62 = .ok (.iload_n 2, 1) := by decide +kernel
theorem dX6_goes_63 : decode cX6_goes 63 = .ok (.baload, 1) := by decide +kernel
theorem dX6_goes_64 : decode cX6_goes 64 = .ok (.ifCond .ne 7, 3) := by decide +kernel
theorem dX6_goes_67 : decode cX6_goes 67 = .ok (.iconst 1, 1) := by decide +kernel
theorem dX6_goes_68 : decode cX6_goes 68 = .ok (.goto 4, 3) := by decide +kernel
theorem dX6_goes_71 : decode cX6_goes 71 = .ok (.iconst 0, 1) := by decide +kernel
theorem dX6_goes_72 : decode cX6_goes 72 = .ok (.iand, 1) := by decide +kernel
theorem dX6_goes_73 : decode cX6_goes 73 = .ok (.bastore, 1) := by decide +kernel
theorem dX6_goes_74 : decode cX6_goes 74 = .ok (.iinc 2 1, 3) := by decide +kernel
theorem dX6_goes_77 : decode cX6_goes 77 = .ok (.goto (-32), 3) := by decide +kernel
theorem dX6_goes_80 : decode cX6_goes 80 = .ok (.return_, 1) := by decide +kernel
theorem dX6_writes_0 : decode cX6_writes 0 = .ok (.aload_n 0, 1) := by decide +kernel
theorem dX6_writes_1 : decode cX6_writes 1 = .ok (.getfield 42, 3) := by decide +kernel
theorem dX6_writes_4 : decode cX6_writes 4 = .ok (.iload_n 1, 1) := by decide +kernel
theorem dX6_writes_5 : decode cX6_writes 5 = .ok (.baload, 1) := by decide +kernel
theorem dX6_writes_6 : decode cX6_writes 6 = .ok (.ifCond .eq 13, 3) := by decide +kernel
theorem dX6_writes_9 : decode cX6_writes 9 = .ok (.aload_n 0, 1) := by decide +kernel
theorem dX6_writes_10 : decode cX6_writes 10 = .ok (.getfield 49, 3) := by decide +kernel
theorem dX6_writes_13 : decode cX6_writes 13 = .ok (.iload_n 1, 1) := by decide +kernel
theorem dX6_writes_14 : decode cX6_writes 14 = .ok (.iaload, 1) := by decide +kernel
theorem dX6_writes_15 : decode cX6_writes 15 = .ok (.iconst 1, 1) := by decide +kernel
theorem dX6_writes_16 : decode cX6_writes 16 = .ok (.if_icmp .eq 4, 3) := by decide +kernel
theorem dX6_writes_19 : decode cX6_writes 19 = .ok (.return_, 1) := by decide +kernel
theorem dX6_writes_20 : decode cX6_writes 20 = .ok (.aload_n 0, 1) := by decide +kernel
theorem dX6_writes_21 : decode cX6_writes 21 = .ok (.getfield 46, 3) := by decide +kernel
theorem dX6_writes_24 : decode cX6_writes 24 = .ok (.iload_n 1, 1) := by decide +kernel
theorem dX6_writes_25 : decode cX6_writes 25 = .ok (.baload, 1) := by decide +kernel
theorem dX6_writes_26 : decode cX6_writes 26 = .ok (.ifCond .ne 49, 3) := by decide +kernel
theorem dX6_writes_29 : decode cX6_writes 29 = .ok (.aload_n 0, 1) := by decide +kernel
theorem dX6_writes_30 : decode cX6_writes 30 = .ok (.getfield 134, 3) := by decide +kernel
theorem dX6_writes_33 : decode cX6_writes 33 = .ok (.iconst 1, 1) := by decide +kernel
theorem dX6_writes_34 : decode cX6_writes 34 = .ok (.iand, 1) := by decide +kernel
theorem dX6_writes_35 : decode cX6_writes 35 = .ok (.ifCond .ne 4, 3) := by decide +kernel
theorem dX6_writes_38 : decode cX6_writes 38 = .ok (.return_, 1) := by decide +kernel
theorem dX6_writes_39 : decode cX6_writes 39 = .ok (.aload_n 0, 1) := by decide +kernel
theorem dX6_writes_40 : decode cX6_writes 40 = .ok (.getfield 46, 3) := by decide +kernel
theorem dX6_writes_43 : decode cX6_writes 43 = .ok (.iload_n 1, 1) := by decide +kernel
theorem dX6_writes_44 : decode cX6_writes 44 = .ok (.iconst 1, 1) := by decide +kernel
theorem dX6_writes_45 : decode cX6_writes 45 = .ok (.bastore, 1) := by decide +kernel
theorem dX6_writes_46 : decode cX6_writes 46 = .ok (.aload_n 0, 1) := by decide +kernel
theorem dX6_writes_47 : decode cX6_writes 47 = .ok (.getfield 52, 3) := by decide +kernel
theorem dX6_writes_50 : decode cX6_writes 50 = .ok (.iload_n 1, 1) := by decide +kernel
theorem dX6_writes_51 : decode cX6_writes 51 = .ok (.aload_n 0, 1) := by decide +kernel
theorem dX6_writes_52 : decode cX6_writes 52 = .ok (.aload_n 0, 1) := by decide +kernel
theorem dX6_writes_53 : decode cX6_writes 53 = .ok (.getfield 52, 3) := by decide +kernel
theorem dX6_writes_56 : decode cX6_writes 56 = .ok (.iload_n 1, 1) := by decide +kernel
theorem dX6_writes_57 : decode cX6_writes 57 = .ok (.iaload, 1) := by decide +kernel
theorem dX6_writes_58 : decode cX6_writes 58 = .ok (.invokevirtual 137, 3) := by decide +kernel
theorem dX6_writes_61 : decode cX6_writes 61 = .ok (.ifCond .eq 12, 3) := by decide +kernel
theorem dX6_writes_64 : decode cX6_writes 64 = .ok (.aload_n 0, 1) := by decide +kernel
theorem dX6_writes_65 : decode cX6_writes 65 = .ok (.getfield 52, 3) := by decide +kernel
theorem dX6_writes_68 : decode cX6_writes 68 = .ok (.iload_n 1, 1) := by decide +kernel
theorem dX6_writes_69 : decode cX6_writes 69 = .ok (.iaload, 1) := by decide +kernel
theorem dX6_writes_70 : decode cX6_writes 70 = .ok (.goto 4, 3) := by decide +kernel
theorem dX6_writes_73 : decode cX6_writes 73 = .ok (.iconst 0, 1) := by decide +kernel
theorem dX6_writes_74 : decode cX6_writes 74 = .ok (.iastore, 1) := by decide +kernel
theorem dX6_writes_75 : decode cX6_writes 75 = .ok (.iconst 0, 1) := by decide +kernel
theorem dX6_writes_76 : decode cX6_writes 76 = .ok (.istore_n 3, 1) := by decide +kernel
theorem dX6_writes_77 : decode cX6_writes 77 = .ok (.iconst 0, 1) := by decide +kernel
theorem dX6_writes_78 : decode cX6_writes 78 = .ok (.istore 4, 2) := by decide +kernel
theorem dX6_writes_80 : decode cX6_writes 80 = .ok (.iload 4, 2) := by decide +kernel
theorem dX6_writes_82 : decode cX6_writes 82 = .ok (.aload_n 0, 1) := by decide +kernel
theorem dX6_writes_83 : decode cX6_writes 83 = .ok (.getfield 64, 3) := by decide +kernel
theorem dX6_writes_86 : decode cX6_writes 86 = .ok (.iload_n 1, 1) := by decide +kernel
theorem dX6_writes_87 : decode cX6_writes 87 = .ok (.iaload, 1) := by decide +kernel
theorem dX6_writes_88 : decode cX6_writes 88 = .ok (.if_icmp .ge 62, 3) := by decide +kernel
theorem dX6_writes_91 : decode cX6_writes 91 = .ok (.aload_n 0, 1) := by decide +kernel
theorem dX6_writes_92 : decode cX6_writes 92 = .ok (.getfield 67, 3) := by decide +kernel
theorem dX6_writes_95 : decode cX6_writes 95 = .ok (.bipush 16, 2) := by decide +kernel
theorem dX6_writes_97 : decode cX6_writes 97 = .ok (.iload_n 1, 1) := by decide +kernel
theorem dX6_writes_98 : decode cX6_writes 98 = .ok (.imul, 1) := by decide +kernel
theorem dX6_writes_99 : decode cX6_writes 99 = .ok (.iload 4, 2) := by decide +kernel
theorem dX6_writes_101 : decode cX6_writes 101 = .ok (.iadd, 1) := by decide +kernel
theorem dX6_writes_102 : decode cX6_writes 102 = .ok (.iaload, 1) := by decide +kernel
theorem dX6_writes_103 : decode cX6_writes 103 = .ok (.istore 5, 2) := by decide +kernel
theorem dX6_writes_105 : decode cX6_writes 105 = .ok (.iload 5, 2) := by decide +kernel
theorem dX6_writes_107 : decode cX6_writes 107 = .ok (.bipush 20, 2) := by decide +kernel
theorem dX6_writes_109 : decode cX6_writes 109 = .ok (.irem, 1) := by decide +kernel
theorem dX6_writes_110 : decode cX6_writes 110 = .ok (.aload_n 0, 1) := by decide +kernel
theorem dX6_writes_111 : decode cX6_writes 111 = .ok (.getfield 17, 3) := by decide +kernel
theorem dX6_writes_114 : decode cX6_writes 114 = .ok (.iload_n 2, 1) := by decide +kernel
theorem dX6_writes_115 : decode cX6_writes 115 = .ok (.bipush 6, 2) := by decide +kernel
theorem dX6_writes_117 : decode cX6_writes 117 = .ok (.iadd, 1) := by decide +kernel
theorem dX6_writes_118 : decode cX6_writes 118 = .ok (.iload 5, 2) := by decide +kernel
theorem dX6_writes_120 : decode cX6_writes 120 = .ok (.bipush 20, 2) := by decide +kernel
theorem dX6_writes_122 : decode cX6_writes 122 = .ok (.idiv, 1) := by decide +kernel
theorem dX6_writes_123 : decode cX6_writes 123 = .ok (.iadd, 1) := by decide +kernel
theorem dX6_writes_124 : decode cX6_writes 124 = .ok (.iaload, 1) := by decide +kernel
theorem dX6_writes_125 : decode cX6_writes 125 = .ok (.if_icmp .lt 19, 3) := by decide +kernel
theorem dX6_writes_128 : decode cX6_writes 128 = .ok (.aload_n 0, 1) := by decide +kernel
theorem dX6_writes_129 : decode cX6_writes 129 = .ok (.getfield 67, 3) := by decide +kernel
theorem dX6_writes_132 : decode cX6_writes 132 = .ok (.bipush 16, 2) := by decide +kernel
theorem dX6_writes_134 : decode cX6_writes 134 = .ok (.iload_n 1, 1) := by decide +kernel
theorem dX6_writes_135 : decode cX6_writes 135 = .ok (.imul, 1) := by decide +kernel
theorem dX6_writes_136 : decode cX6_writes 136 = .ok (.iload_n 3, 1) := by decide +kernel
theorem dX6_writes_137 : decode cX6_writes 137 = .ok (.iadd, 1) := by decide +kernel
theorem dX6_writes_138 : decode cX6_writes 138 = .ok (.iload 5, 2) := by decide +kernel
theorem dX6_writes_140 : decode cX6_writes 140 = .ok (.iastore, 1) := by decide +kernel
theorem dX6_writes_141 : decode cX6_writes 141 = .ok (.iinc 3 1, 3) := by decide +kernel
theorem dX6_writes_144 : decode cX6_writes 144 = .ok (.iinc 4 1, 3) := by decide +kernel
theorem dX6_writes_147 : decode cX6_writes 147 = .ok (.goto (-67), 3) := by decide +kernel
theorem dX6_writes_150 : decode cX6_writes 150 = .ok (.aload_n 0, 1) := by decide +kernel
theorem dX6_writes_151 : decode cX6_writes 151 = .ok (.getfield 67, 3) := by decide +kernel
theorem dX6_writes_154 : decode cX6_writes 154 = .ok (.bipush 16, 2) := by decide +kernel
theorem dX6_writes_156 : decode cX6_writes 156 = .ok (.iload_n 1, 1) := by decide +kernel
theorem dX6_writes_157 : decode cX6_writes 157 = .ok (.imul, 1) := by decide +kernel
theorem dX6_writes_158 : decode cX6_writes 158 = .ok (.iload_n 3, 1) := by decide +kernel
theorem dX6_writes_159 : decode cX6_writes 159 = .ok (.iadd, 1) := by decide +kernel
theorem dX6_writes_160 : decode cX6_writes 160 = .ok (.iload_n 2, 1) := by decide +kernel
theorem dX6_writes_161 : decode cX6_writes 161 = .ok (.bipush 12, 2) := by decide +kernel
theorem dX6_writes_163 : decode cX6_writes 163 = .ok (.idiv, 1) := by decide +kernel
theorem dX6_writes_164 : decode cX6_writes 164 = .ok (.iastore, 1) := by decide +kernel
theorem dX6_writes_165 : decode cX6_writes 165 = .ok (.aload_n 0, 1) := by decide +kernel
theorem dX6_writes_166 : decode cX6_writes 166 = .ok (.getfield 64, 3) := by decide +kernel
theorem dX6_writes_169 : decode cX6_writes 169 = .ok (.iload_n 1, 1) := by decide +kernel
theorem dX6_writes_170 : decode cX6_writes 170 = .ok (.iload_n 3, 1) := by decide +kernel
theorem dX6_writes_171 : decode cX6_writes 171 = .ok (.iconst 1, 1) := by decide +kernel
theorem dX6_writes_172 : decode cX6_writes 172 = .ok (.iadd, 1) := by decide +kernel
theorem dX6_writes_173 : decode cX6_writes 173 = .ok (.iastore, 1) := by decide +kernel
theorem dX6_writes_174 : decode cX6_writes 174 = .ok (.return_, 1) := by decide +kernel
theorem dX6_does_0 : decode cX6_does 0 = .ok (.iload_n 1, 1) := by decide +kernel
theorem dX6_does_1 : decode cX6_does 1 = .ok (.iload_n 2, 1) := by decide +kernel
theorem dX6_does_2 : decode cX6_does 2 = .ok (.invokestatic 119, 3) := by decide +kernel
theorem dX6_does_5 : decode cX6_does 5 = .ok (.istore 4, 2) := by decide +kernel
theorem dX6_does_7 : decode cX6_does 7 = .ok (.aload_n 0, 1) := by decide +kernel
theorem dX6_does_8 : decode cX6_does 8 = .ok (.getfield 17, 3) := by decide +kernel
theorem dX6_does_11 : decode cX6_does 11 = .ok (.iload 4, 2) := by decide +kernel
theorem dX6_does_13 : decode cX6_does 13 = .ok (.iconst 1, 1) := by decide +kernel
theorem dX6_does_14 : decode cX6_does 14 = .ok (.iadd, 1) := by decide +kernel
theorem dX6_does_15 : decode cX6_does 15 = .ok (.iaload, 1) := by decide +kernel
theorem dX6_does_16 : decode cX6_does 16 = .ok (.istore 5, 2) := by decide +kernel
theorem dX6_does_18 : decode cX6_does 18 = .ok (.aload_n 0, 1) := by decide +kernel
theorem dX6_does_19 : decode cX6_does 19 = .ok (.getfield 17, 3) := by decide +kernel
theorem dX6_does_22 : decode cX6_does 22 = .ok (.iload 4, 2) := by decide +kernel
theorem dX6_does_24 : decode cX6_does 24 = .ok (.iconst 2, 1) := by decide +kernel
theorem dX6_does_25 : decode cX6_does 25 = .ok (.iadd, 1) := by decide +kernel
theorem dX6_does_26 : decode cX6_does 26 = .ok (.iaload, 1) := by decide +kernel
theorem dX6_does_27 : decode cX6_does 27 = .ok (.istore 6, 2) := by decide +kernel
theorem dX6_does_29 : decode cX6_does 29 = .ok (.aload_n 0, 1) := by decide +kernel
theorem dX6_does_30 : decode cX6_does 30 = .ok (.getfield 17, 3) := by decide +kernel
theorem dX6_does_33 : decode cX6_does 33 = .ok (.iload 4, 2) := by decide +kernel
theorem dX6_does_35 : decode cX6_does 35 = .ok (.iaload, 1) := by decide +kernel
theorem dX6_does_36 : decode cX6_does 36 = .ok (.istore 7, 2) := by decide +kernel
theorem dX6_does_38 : decode cX6_does 38 = .ok (.iload 7, 2) := by decide +kernel
theorem dX6_does_40 : decode cX6_does 40 = .ok (.ifCond .ne 88, 3) := by decide +kernel
theorem dX6_does_43 : decode cX6_does 43 = .ok (.aload_n 0, 1) := by decide +kernel
theorem dX6_does_44 : decode cX6_does 44 = .ok (.getfield 42, 3) := by decide +kernel
theorem dX6_does_47 : decode cX6_does 47 = .ok (.iload 5, 2) := by decide +kernel
theorem dX6_does_49 : decode cX6_does 49 = .ok (.baload, 1) := by decide +kernel
theorem dX6_does_50 : decode cX6_does 50 = .ok (.ifCond .ne 178, 3) := by decide +kernel
theorem dX6_does_53 : decode cX6_does 53 = .ok (.aload_n 0, 1) := by decide +kernel
theorem dX6_does_54 : decode cX6_does 54 = .ok (.getfield 42, 3) := by decide +kernel
theorem dX6_does_57 : decode cX6_does 57 = .ok (.iload 5, 2) := by decide +kernel
theorem dX6_does_59 : decode cX6_does 59 = .ok (.iconst 1, 1) := by decide +kernel
theorem dX6_does_60 : decode cX6_does 60 = .ok (.bastore, 1) := by decide +kernel
theorem dX6_does_61 : decode cX6_does 61 = .ok (.aload_n 0, 1) := by decide +kernel
theorem dX6_does_62 : decode cX6_does 62 = .ok (.getfield 46, 3) := by decide +kernel
theorem dX6_does_65 : decode cX6_does 65 = .ok (.iload 5, 2) := by decide +kernel
theorem dX6_does_67 : decode cX6_does 67 = .ok (.iconst 1, 1) := by decide +kernel
theorem dX6_does_68 : decode cX6_does 68 = .ok (.bastore, 1) := by decide +kernel
theorem dX6_does_69 : decode cX6_does 69 = .ok (.aload_n 0, 1) := by decide +kernel
theorem dX6_does_70 : decode cX6_does 70 = .ok (.getfield 49, 3) := by decide +kernel
theorem dX6_does_73 : decode cX6_does 73 = .ok (.iload 5, 2) := by decide +kernel
theorem dX6_does_75 : decode cX6_does 75 = .ok (.aload_n 0, 1) := by decide +kernel
theorem dX6_does_76 : decode cX6_does 76 = .ok (.getfield 17, 3) := by decide +kernel
theorem dX6_does_79 : decode cX6_does 79 = .ok (.iload 4, 2) := by decide +kernel
theorem dX6_does_81 : decode cX6_does 81 = .ok (.bipush 10, 2) := by decide +kernel
theorem dX6_does_83 : decode cX6_does 83 = .ok (.iadd, 1) := by decide +kernel
theorem dX6_does_84 : decode cX6_does 84 = .ok (.iaload, 1) := by decide +kernel
theorem dX6_does_85 : decode cX6_does 85 = .ok (.iastore, 1) := by decide +kernel
theorem dX6_does_86 : decode cX6_does 86 = .ok (.aload_n 0, 1) := by decide +kernel
theorem dX6_does_87 : decode cX6_does 87 = .ok (.getfield 64, 3) := by decide +kernel
theorem dX6_does_90 : decode cX6_does 90 = .ok (.iload 5, 2) := by decide +kernel
theorem dX6_does_92 : decode cX6_does 92 = .ok (.iconst 0, 1) := by decide +kernel
theorem dX6_does_93 : decode cX6_does 93 = .ok (.iastore, 1) := by decide +kernel
theorem dX6_does_94 : decode cX6_does 94 = .ok (.aload_n 0, 1) := by decide +kernel
theorem dX6_does_95 : decode cX6_does 95 = .ok (.iload 5, 2) := by decide +kernel
theorem dX6_does_97 : decode cX6_does 97 = .ok (.aload_n 0, 1) := by decide +kernel
theorem dX6_does_98 : decode cX6_does 98 = .ok (.iload 6, 2) := by decide +kernel
theorem dX6_does_100 : decode cX6_does 100 = .ok (.invokevirtual 137, 3) := by decide +kernel
theorem dX6_does_103 : decode cX6_does 103 = .ok (.ifCond .eq 8, 3) := by decide +kernel
theorem dX6_does_106 : decode cX6_does 106 = .ok (.iload 6, 2) := by decide +kernel
theorem dX6_does_108 : decode cX6_does 108 = .ok (.goto 4, 3) := by decide +kernel
theorem dX6_does_111 : decode cX6_does 111 = .ok (.iconst 0, 1) := by decide +kernel
theorem dX6_does_112 : decode cX6_does 112 = .ok (.aload_n 0, 1) := by decide +kernel
theorem dX6_does_113 : decode cX6_does 113 = .ok (.getfield 17, 3) := by decide +kernel
theorem dX6_does_116 : decode cX6_does 116 = .ok (.iload 4, 2) := by decide +kernel
theorem dX6_does_118 : decode cX6_does 118 = .ok (.iconst 3, 1) := by decide +kernel
theorem dX6_does_119 : decode cX6_does 119 = .ok (.iadd, 1) := by decide +kernel
theorem dX6_does_120 : decode cX6_does 120 = .ok (.iaload, 1) := by decide +kernel
theorem dX6_does_121 : decode cX6_does 121 = .ok (.iload_n 3, 1) := by decide +kernel
theorem dX6_does_122 : decode cX6_does 122 = .ok (.invokevirtual 141, 3) := by decide +kernel
theorem dX6_does_125 : decode cX6_does 125 = .ok (.goto 103, 3) := by decide +kernel
theorem dX6_does_128 : decode cX6_does 128 = .ok (.iload 7, 2) := by decide +kernel
theorem dX6_does_130 : decode cX6_does 130 = .ok (.iconst 1, 1) := by decide +kernel
theorem dX6_does_131 : decode cX6_does 131 = .ok (.if_icmp .ne 59, 3) := by decide +kernel
theorem dX6_does_134 : decode cX6_does 134 = .ok (.iload 5, 2) := by decide +kernel
theorem dX6_does_136 : decode cX6_does 136 = .ok (.ifCond .eq 92, 3) := by decide +kernel
theorem dX6_does_139 : decode cX6_does 139 = .ok (.aload_n 0, 1) := by decide +kernel
theorem dX6_does_140 : decode cX6_does 140 = .ok (.getfield 46, 3) := by decide +kernel
theorem dX6_does_143 : decode cX6_does 143 = .ok (.iload 5, 2) := by decide +kernel
theorem dX6_does_145 : decode cX6_does 145 = .ok (.baload, 1) := by decide +kernel
theorem dX6_does_146 : decode cX6_does 146 = .ok (.ifCond .eq 82, 3) := by decide +kernel
theorem dX6_does_149 : decode cX6_does 149 = .ok (.aload_n 0, 1) := by decide +kernel
theorem dX6_does_150 : decode cX6_does 150 = .ok (.iload 6, 2) := by decide +kernel
theorem dX6_does_152 : decode cX6_does 152 = .ok (.invokevirtual 137, 3) := by decide +kernel
theorem dX6_does_155 : decode cX6_does 155 = .ok (.ifCond .eq 73, 3) := by decide +kernel
theorem dX6_does_158 : decode cX6_does 158 = .ok (.aload_n 0, 1) := by decide +kernel
theorem dX6_does_159 : decode cX6_does 159 = .ok (.iload 6, 2) := by decide +kernel
theorem dX6_does_161 : decode cX6_does 161 = .ok (.iload 5, 2) := by decide +kernel
theorem dX6_does_163 : decode cX6_does 163 = .ok (.invokevirtual 130, 3) := by decide +kernel
theorem dX6_does_166 : decode cX6_does 166 = .ok (.ifCond .ne 62, 3) := by decide +kernel
theorem dX6_does_169 : decode cX6_does 169 = .ok (.aload_n 0, 1) := by decide +kernel
theorem dX6_does_170 : decode cX6_does 170 = .ok (.iload 5, 2) := by decide +kernel
theorem dX6_does_172 : decode cX6_does 172 = .ok (.iload 6, 2) := by decide +kernel
theorem dX6_does_174 : decode cX6_does 174 = .ok (.aload_n 0, 1) := by decide +kernel
theorem dX6_does_175 : decode cX6_does 175 = .ok (.getfield 17, 3) := by decide +kernel
theorem dX6_does_178 : decode cX6_does 178 = .ok (.iload 4, 2) := by decide +kernel
theorem dX6_does_180 : decode cX6_does 180 = .ok (.iconst 3, 1) := by decide +kernel
theorem dX6_does_181 : decode cX6_does 181 = .ok (.iadd, 1) := by decide +kernel
theorem dX6_does_182 : decode cX6_does 182 = .ok (.iaload, 1) := by decide +kernel
theorem dX6_does_183 : decode cX6_does 183 = .ok (.iload_n 3, 1) := by decide +kernel
theorem dX6_does_184 : decode cX6_does 184 = .ok (.invokevirtual 141, 3) := by decide +kernel
theorem dX6_does_187 : decode cX6_does 187 = .ok (.goto 41, 3) := by decide +kernel
theorem dX6_does_190 : decode cX6_does 190 = .ok (.iload 7, 2) := by decide +kernel
theorem dX6_does_192 : decode cX6_does 192 = .ok (.iconst 2, 1) := by decide +kernel
theorem dX6_does_193 : decode cX6_does 193 = .ok (.if_icmp .ne 27, 3) := by decide +kernel
theorem dX6_does_196 : decode cX6_does 196 = .ok (.iload 5, 2) := by decide +kernel
theorem dX6_does_198 : decode cX6_does 198 = .ok (.ifCond .eq 30, 3) := by decide +kernel
theorem dX6_does_201 : decode cX6_does 201 = .ok (.aload_n 0, 1) := by decide +kernel
theorem dX6_does_202 : decode cX6_does 202 = .ok (.getfield 46, 3) := by decide +kernel
