theorem dX1_init_0 : decode cX1_init 0 = .ok (.aload_n 0, 1) := by decide +kernel
theorem dX1_init_1 : decode cX1_init 1 = .ok (.invokespecial 3, 3) := by decide +kernel
theorem dX1_init_4 : decode cX1_init 4 = .ok (.aload_n 0, 1) := by decide +kernel
theorem dX1_init_5 : decode cX1_init 5 = .ok (.bipush 80, 2) := by decide +kernel
theorem dX1_init_7 : decode cX1_init 7 = .ok (.anewarray 9, 3) := by decide +kernel
theorem dX1_init_10 : decode cX1_init 10 = .ok (.putfield 11, 3) := by decide +kernel
theorem dX1_init_13 : decode cX1_init 13 = .ok (.aload_n 0, 1) := by decide +kernel
theorem dX1_init_14 : decode cX1_init 14 = .ok (.bipush 80, 2) := by decide +kernel
theorem dX1_init_16 : decode cX1_init 16 = .ok (.newarray .int, 2) := by decide +kernel
theorem dX1_init_18 : decode cX1_init 18 = .ok (.putfield 17, 3) := by decide +kernel
theorem dX1_init_21 : decode cX1_init 21 = .ok (.aload_n 0, 1) := by decide +kernel
theorem dX1_init_22 : decode cX1_init 22 = .ok (.iconst 4, 1) := by decide +kernel
theorem dX1_init_23 : decode cX1_init 23 = .ok (.newarray .int, 2) := by decide +kernel
theorem dX1_init_25 : decode cX1_init 25 = .ok (.putfield 21, 3) := by decide +kernel
theorem dX1_init_28 : decode cX1_init 28 = .ok (.aload_n 0, 1) := by decide +kernel
theorem dX1_init_29 : decode cX1_init 29 = .ok (.sipush 480, 3) := by decide +kernel
theorem dX1_init_32 : decode cX1_init 32 = .ok (.newarray .int, 2) := by decide +kernel
theorem dX1_init_34 : decode cX1_init 34 = .ok (.putfield 24, 3) := by decide +kernel
theorem dX1_init_37 : decode cX1_init 37 = .ok (.aload_n 0, 1) := by decide +kernel
theorem dX1_init_38 : decode cX1_init 38 = .ok (.iconst 4, 1) := by decide +kernel
theorem dX1_init_39 : decode cX1_init 39 = .ok (.newarray .int, 2) := by decide +kernel
theorem dX1_init_41 : decode cX1_init 41 = .ok (.putfield 27, 3) := by decide +kernel
theorem dX1_init_44 : decode cX1_init 44 = .ok (.aload_n 0, 1) := by decide +kernel
theorem dX1_init_45 : decode cX1_init 45 = .ok (.iconst 4, 1) := by decide +kernel
theorem dX1_init_46 : decode cX1_init 46 = .ok (.newarray .int, 2) := by decide +kernel
theorem dX1_init_48 : decode cX1_init 48 = .ok (.putfield 30, 3) := by decide +kernel
theorem dX1_init_51 : decode cX1_init 51 = .ok (.iconst 0, 1) := by decide +kernel
theorem dX1_init_52 : decode cX1_init 52 = .ok (.istore_n 1, 1) := by decide +kernel
theorem dX1_init_53 : decode cX1_init 53 = .ok (.iload_n 1, 1) := by decide +kernel
theorem dX1_init_54 : decode cX1_init 54 = .ok (.bipush 80, 2) := by decide +kernel
theorem dX1_init_56 : decode cX1_init 56 = .ok (.if_icmp .ge 22, 3) := by decide +kernel
theorem dX1_init_59 : decode cX1_init 59 = .ok (.aload_n 0, 1) := by decide +kernel
theorem dX1_init_60 : decode cX1_init 60 = .ok (.getfield 11, 3) := by decide +kernel
theorem dX1_init_63 : decode cX1_init 63 = .ok (.iload_n 1, 1) := by decide +kernel
theorem dX1_init_64 : decode cX1_init 64 = .ok (.new 9, 3) := by decide +kernel
theorem dX1_init_67 : decode cX1_init 67 = .ok (.dup, 1) := by decide +kernel
theorem dX1_init_68 : decode cX1_init 68 = .ok (.invokespecial 33, 3) := by decide +kernel
theorem dX1_init_71 : decode cX1_init 71 = .ok (.aastore, 1) := by decide +kernel
theorem dX1_init_72 : decode cX1_init 72 = .ok (.iinc 1 1, 3) := by decide +kernel
theorem dX1_init_75 : decode cX1_init 75 = .ok (.goto (-22), 3) := by decide +kernel
theorem dX1_init_78 : decode cX1_init 78 = .ok (.return_, 1) := by decide +kernel
theorem dX1_empty_0 : decode cX1_empty 0 = .ok (.aload_n 0, 1) := by decide +kernel
theorem dX1_empty_1 : decode cX1_empty 1 = .ok (.iconst 0, 1) := by decide +kernel
theorem dX1_empty_2 : decode cX1_empty 2 = .ok (.putfield 34, 3) := by decide +kernel
theorem dX1_empty_5 : decode cX1_empty 5 = .ok (.aload_n 0, 1) := by decide +kernel
theorem dX1_empty_6 : decode cX1_empty 6 = .ok (.iconst 0, 1) := by decide +kernel
theorem dX1_empty_7 : decode cX1_empty 7 = .ok (.putfield 38, 3) := by decide +kernel
theorem dX1_empty_10 : decode cX1_empty 10 = .ok (.iconst 0, 1) := by decide +kernel
theorem dX1_empty_11 : decode cX1_empty 11 = .ok (.istore_n 1, 1) := by decide +kernel
theorem dX1_empty_12 : decode cX1_empty 12 = .ok (.iload_n 1, 1) := by decide +kernel
theorem dX1_empty_13 : decode cX1_empty 13 = .ok (.iconst 4, 1) := by decide +kernel
theorem dX1_empty_14 : decode cX1_empty 14 = .ok (.if_icmp .ge 32, 3) := by decide +kernel
theorem dX1_empty_17 : decode cX1_empty 17 = .ok (.aload_n 0, 1) := by decide +kernel
theorem dX1_empty_18 : decode cX1_empty 18 = .ok (.getfield 21, 3) := by decide +kernel
theorem dX1_empty_21 : decode cX1_empty 21 = .ok (.iload_n 1, 1) := by decide +kernel
theorem dX1_empty_22 : decode cX1_empty 22 = .ok (.iconst 0, 1) := by decide +kernel
theorem dX1_empty_23 : decode cX1_empty 23 = .ok (.iastore, 1) := by decide +kernel
theorem dX1_empty_24 : decode cX1_empty 24 = .ok (.aload_n 0, 1) := by decide +kernel
theorem dX1_empty_25 : decode cX1_empty 25 = .ok (.getfield 27, 3) := by decide +kernel
theorem dX1_empty_28 : decode cX1_empty 28 = .ok (.iload_n 1, 1) := by decide +kernel
theorem dX1_empty_29 : decode cX1_empty 29 = .ok (.bipush (-9), 2) := by decide +kernel
theorem dX1_empty_31 : decode cX1_empty 31 = .ok (.iastore, 1) := by decide +kernel
theorem dX1_empty_32 : decode cX1_empty 32 = .ok (.aload_n 0, 1) := by decide +kernel
theorem dX1_empty_33 : decode cX1_empty 33 = .ok (.getfield 30, 3) := by decide +kernel
theorem dX1_empty_36 : decode cX1_empty 36 = .ok (.iload_n 1, 1) := by decide +kernel
theorem dX1_empty_37 : decode cX1_empty 37 = .ok (.bipush 20, 2) := by decide +kernel
theorem dX1_empty_39 : decode cX1_empty 39 = .ok (.iastore, 1) := by decide +kernel
theorem dX1_empty_40 : decode cX1_empty 40 = .ok (.iinc 1 1, 3) := by decide +kernel
theorem dX1_empty_43 : decode cX1_empty 43 = .ok (.goto (-31), 3) := by decide +kernel
theorem dX1_empty_46 : decode cX1_empty 46 = .ok (.iconst 0, 1) := by decide +kernel
theorem dX1_empty_47 : decode cX1_empty 47 = .ok (.istore_n 1, 1) := by decide +kernel
theorem dX1_empty_48 : decode cX1_empty 48 = .ok (.iload_n 1, 1) := by decide +kernel
theorem dX1_empty_49 : decode cX1_empty 49 = .ok (.bipush 16, 2) := by decide +kernel
theorem dX1_empty_51 : decode cX1_empty 51 = .ok (.if_icmp .ge 16, 3) := by decide +kernel
theorem dX1_empty_54 : decode cX1_empty 54 = .ok (.aload_n 0, 1) := by decide +kernel
theorem dX1_empty_55 : decode cX1_empty 55 = .ok (.getfield 24, 3) := by decide +kernel
theorem dX1_empty_58 : decode cX1_empty 58 = .ok (.iload_n 1, 1) := by decide +kernel
theorem dX1_empty_59 : decode cX1_empty 59 = .ok (.iconst 0, 1) := by decide +kernel
theorem dX1_empty_60 : decode cX1_empty 60 = .ok (.iastore, 1) := by decide +kernel
theorem dX1_empty_61 : decode cX1_empty 61 = .ok (.iinc 1 1, 3) := by decide +kernel
theorem dX1_empty_64 : decode cX1_empty 64 = .ok (.goto (-16), 3) := by decide +kernel
theorem dX1_empty_67 : decode cX1_empty 67 = .ok (.return_, 1) := by decide +kernel
theorem dX1_placeOf_0 : decode cX1_placeOf 0 = .ok (.iload_n 0, 1) := by decide +kernel
theorem dX1_placeOf_1 : decode cX1_placeOf 1 = .ok (.iconst 4, 1) := by decide +kernel
theorem dX1_placeOf_2 : decode cX1_placeOf 2 = .ok (.imul, 1) := by decide +kernel
theorem dX1_placeOf_3 : decode cX1_placeOf 3 = .ok (.iload_n 1, 1) := by decide +kernel
theorem dX1_placeOf_4 : decode cX1_placeOf 4 = .ok (.iadd, 1) := by decide +kernel
theorem dX1_placeOf_5 : decode cX1_placeOf 5 = .ok (.iconst 4, 1) := by decide +kernel
theorem dX1_placeOf_6 : decode cX1_placeOf 6 = .ok (.imul, 1) := by decide +kernel
theorem dX1_placeOf_7 : decode cX1_placeOf 7 = .ok (.iload_n 2, 1) := by decide +kernel
theorem dX1_placeOf_8 : decode cX1_placeOf 8 = .ok (.iadd, 1) := by decide +kernel
theorem dX1_placeOf_9 : decode cX1_placeOf 9 = .ok (.ireturn, 1) := by decide +kernel
theorem dX1_knownOf_0 : decode cX1_knownOf 0 = .ok (.aload_n 0, 1) := by decide +kernel
theorem dX1_knownOf_1 : decode cX1_knownOf 1 = .ok (.getfield 24, 3) := by decide +kernel
theorem dX1_knownOf_4 : decode cX1_knownOf 4 = .ok (.iload_n 1, 1) := by decide +kernel
theorem dX1_knownOf_5 : decode cX1_knownOf 5 = .ok (.iload_n 2, 1) := by decide +kernel
theorem dX1_knownOf_6 : decode cX1_knownOf 6 = .ok (.iload_n 3, 1) := by decide +kernel
theorem dX1_knownOf_7 : decode cX1_knownOf 7 = .ok (.invokestatic 41, 3) := by decide +kernel
theorem dX1_knownOf_10 : decode cX1_knownOf 10 = .ok (.iaload, 1) := by decide +kernel
theorem dX1_knownOf_11 : decode cX1_knownOf 11 = .ok (.ireturn, 1) := by decide +kernel
theorem dX1_knows_0 : decode cX1_knows 0 = .ok (.aload_n 3, 1) := by decide +kernel
theorem dX1_knows_1 : decode cX1_knows 1 = .ok (.getfield 45, 3) := by decide +kernel
theorem dX1_knows_4 : decode cX1_knows 4 = .ok (.aload_n 0, 1) := by decide +kernel
theorem dX1_knows_5 : decode cX1_knows 5 = .ok (.iload_n 1, 1) := by decide +kernel
theorem dX1_knows_6 : decode cX1_knows 6 = .ok (.iload_n 2, 1) := by decide +kernel
theorem dX1_knows_7 : decode cX1_knows 7 = .ok (.aload_n 3, 1) := by decide +kernel
theorem dX1_knows_8 : decode cX1_knows 8 = .ok (.getfield 48, 3) := by decide +kernel
theorem dX1_knows_11 : decode cX1_knows 11 = .ok (.invokevirtual 51, 3) := by decide +kernel
theorem dX1_knows_14 : decode cX1_knows 14 = .ok (.if_icmp .ge 7, 3) := by decide +kernel
theorem dX1_knows_17 : decode cX1_knows 17 = .ok (.iconst 1, 1) := by decide +kernel
theorem dX1_knows_18 : decode cX1_knows 18 = .ok (.goto 4, 3) := by decide +kernel
theorem dX1_knows_21 : decode cX1_knows 21 = .ok (.iconst 0, 1) := by decide +kernel
theorem dX1_knows_22 : decode cX1_knows 22 = .ok (.ireturn, 1) := by decide +kernel
theorem dX1_changeOf_0 : decode cX1_changeOf 0 = .ok (.aload_n 0, 1) := by decide +kernel
theorem dX1_changeOf_1 : decode cX1_changeOf 1 = .ok (.getfield 11, 3) := by decide +kernel
theorem dX1_changeOf_4 : decode cX1_changeOf 4 = .ok (.iload_n 1, 1) := by decide +kernel
theorem dX1_changeOf_5 : decode cX1_changeOf 5 = .ok (.bipush 20, 2) := by decide +kernel
theorem dX1_changeOf_7 : decode cX1_changeOf 7 = .ok (.imul, 1) := by decide +kernel
theorem dX1_changeOf_8 : decode cX1_changeOf 8 = .ok (.iload_n 2, 1) := by decide +kernel
theorem dX1_changeOf_9 : decode cX1_changeOf 9 = .ok (.iadd, 1) := by decide +kernel
theorem dX1_changeOf_10 : decode cX1_changeOf 10 = .ok (.aaload, 1) := by decide +kernel
theorem dX1_changeOf_11 : decode cX1_changeOf 11 = .ok (.areturn, 1) := by decide +kernel
theorem dX1_inOrder_0 : decode cX1_inOrder 0 = .ok (.aload_n 0, 1) := by decide +kernel
theorem dX1_inOrder_1 : decode cX1_inOrder 1 = .ok (.getfield 11, 3) := by decide +kernel
theorem dX1_inOrder_4 : decode cX1_inOrder 4 = .ok (.aload_n 0, 1) := by decide +kernel
theorem dX1_inOrder_5 : decode cX1_inOrder 5 = .ok (.getfield 17, 3) := by decide +kernel
theorem dX1_inOrder_8 : decode cX1_inOrder 8 = .ok (.iload_n 1, 1) := by decide +kernel
theorem dX1_inOrder_9 : decode cX1_inOrder 9 = .ok (.iaload, 1) := by decide +kernel
theorem dX1_inOrder_10 : decode cX1_inOrder 10 = .ok (.aaload, 1) := by decide +kernel
theorem dX1_inOrder_11 : decode cX1_inOrder 11 = .ok (.areturn, 1) := by decide +kernel
theorem dX1_isFull_0 : decode cX1_isFull 0 = .ok (.aload_n 0, 1) := by decide +kernel
theorem dX1_isFull_1 : decode cX1_isFull 1 = .ok (.getfield 21, 3) := by decide +kernel
theorem dX1_isFull_4 : decode cX1_isFull 4 = .ok (.iload_n 1, 1) := by decide +kernel
theorem dX1_isFull_5 : decode cX1_isFull 5 = .ok (.iaload, 1) := by decide +kernel
theorem dX1_isFull_6 : decode cX1_isFull 6 = .ok (.bipush 20, 2) := by decide +kernel
theorem dX1_isFull_8 : decode cX1_isFull 8 = .ok (.if_icmp .lt 7, 3) := by decide +kernel
theorem dX1_isFull_11 : decode cX1_isFull 11 = .ok (.iconst 1, 1) := by decide +kernel
theorem dX1_isFull_12 : decode cX1_isFull 12 = .ok (.goto 4, 3) := by decide +kernel
theorem dX1_isFull_15 : decode cX1_isFull 15 = .ok (.iconst 0, 1) := by decide +kernel
theorem dX1_isFull_16 : decode cX1_isFull 16 = .ok (.ireturn, 1) := by decide +kernel
theorem dX1_append_0 : decode cX1_append 0 = .ok (.aload_n 0, 1) := by decide +kernel
theorem dX1_append_1 : decode cX1_append 1 = .ok (.iload_n 1, 1) := by decide +kernel
theorem dX1_append_2 : decode cX1_append 2 = .ok (.aload_n 0, 1) := by decide +kernel
theorem dX1_append_3 : decode cX1_append 3 = .ok (.getfield 21, 3) := by decide +kernel
theorem dX1_append_6 : decode cX1_append 6 = .ok (.iload_n 1, 1) := by decide +kernel
theorem dX1_append_7 : decode cX1_append 7 = .ok (.iaload, 1) := by decide +kernel
theorem dX1_append_8 : decode cX1_append 8 = .ok (.invokevirtual 54, 3) := by decide +kernel
theorem dX1_append_11 : decode cX1_append 11 = .ok (.astore 4, 2) := by decide +kernel
theorem dX1_append_13 : decode cX1_append 13 = .ok (.aload 4, 2) := by decide +kernel
theorem dX1_append_15 : decode cX1_append 15 = .ok (.iload_n 1, 1) := by decide +kernel
theorem dX1_append_16 : decode cX1_append 16 = .ok (.putfield 48, 3) := by decide +kernel
theorem dX1_append_19 : decode cX1_append 19 = .ok (.aload 4, 2) := by decide +kernel
theorem dX1_append_21 : decode cX1_append 21 = .ok (.aload_n 0, 1) := by decide +kernel
theorem dX1_append_22 : decode cX1_append 22 = .ok (.getfield 21, 3) := by decide +kernel
theorem dX1_append_25 : decode cX1_append 25 = .ok (.iload_n 1, 1) := by decide +kernel
theorem dX1_append_26 : decode cX1_append 26 = .ok (.iaload, 1) := by decide +kernel
theorem dX1_append_27 : decode cX1_append 27 = .ok (.putfield 45, 3) := by decide +kernel
theorem dX1_append_30 : decode cX1_append 30 = .ok (.aload 4, 2) := by decide +kernel
theorem dX1_append_32 : decode cX1_append 32 = .ok (.iload_n 2, 1) := by decide +kernel
theorem dX1_append_33 : decode cX1_append 33 = .ok (.putfield 58, 3) := by decide +kernel
theorem dX1_append_36 : decode cX1_append 36 = .ok (.aload 4, 2) := by decide +kernel
theorem dX1_append_38 : decode cX1_append 38 = .ok (.iload_n 3, 1) := by decide +kernel
theorem dX1_append_39 : decode cX1_append 39 = .ok (.putfield 61, 3) := by decide +kernel
theorem dX1_append_42 : decode cX1_append 42 = .ok (.aload 4, 2) := by decide +kernel
theorem dX1_append_44 : decode cX1_append 44 = .ok (.aload_n 0, 1) := by decide +kernel
theorem dX1_append_45 : decode cX1_append 45 = .ok (.getfield 38, 3) := by decide +kernel
theorem dX1_append_48 : decode cX1_append 48 = .ok (.putfield 64, 3) := by decide +kernel
theorem dX1_append_51 : decode cX1_append 51 = .ok (.aload 4, 2) := by decide +kernel
theorem dX1_append_53 : decode cX1_append 53 = .ok (.iconst 1, 1) := by decide +kernel
theorem dX1_append_54 : decode cX1_append 54 = .ok (.putfield 67, 3) := by decide +kernel
theorem dX1_append_57 : decode cX1_append 57 = .ok (.iconst 0, 1) := by decide +kernel
theorem dX1_append_58 : decode cX1_append 58 = .ok (.istore 5, 2) := by decide +kernel
theorem dX1_append_60 : decode cX1_append 60 = .ok (.iload 5, 2) := by decide +kernel
theorem dX1_append_62 : decode cX1_append 62 = .ok (.iconst 4, 1) := by decide +kernel
theorem dX1_append_63 : decode cX1_append 63 = .ok (.if_icmp .ge 65, 3) := by decide +kernel
theorem dX1_append_66 : decode cX1_append 66 = .ok (.aload_n 0, 1) := by decide +kernel
theorem dX1_append_67 : decode cX1_append 67 = .ok (.aload_n 0, 1) := by decide +kernel
theorem dX1_append_68 : decode cX1_append 68 = .ok (.getfield 38, 3) := by decide +kernel
theorem dX1_append_71 : decode cX1_append 71 = .ok (.iload_n 1, 1) := by decide +kernel
theorem dX1_append_72 : decode cX1_append 72 = .ok (.iload 5, 2) := by decide +kernel
theorem dX1_append_74 : decode cX1_append 74 = .ok (.invokevirtual 51, 3) := by decide +kernel
theorem dX1_append_77 : decode cX1_append 77 = .ok (.istore 6, 2) := by decide +kernel
theorem dX1_append_79 : decode cX1_append 79 = .ok (.aload 4, 2) := by decide +kernel
theorem dX1_append_81 : decode cX1_append 81 = .ok (.getfield 70, 3) := by decide +kernel
theorem dX1_append_84 : decode cX1_append 84 = .ok (.iload 5, 2) := by decide +kernel
theorem dX1_append_86 : decode cX1_append 86 = .ok (.iload 6, 2) := by decide +kernel
theorem dX1_append_88 : decode cX1_append 88 = .ok (.iastore, 1) := by decide +kernel
theorem dX1_append_89 : decode cX1_append 89 = .ok (.iload 6, 2) := by decide +kernel
theorem dX1_append_91 : decode cX1_append 91 = .ok (.ifCond .le 31, 3) := by decide +kernel
theorem dX1_append_94 : decode cX1_append 94 = .ok (.aload 4, 2) := by decide +kernel
theorem dX1_append_96 : decode cX1_append 96 = .ok (.aload 4, 2) := by decide +kernel
theorem dX1_append_98 : decode cX1_append 98 = .ok (.getfield 67, 3) := by decide +kernel
theorem dX1_append_101 : decode cX1_append 101 = .ok (.iconst 1, 1) := by decide +kernel
theorem dX1_append_102 : decode cX1_append 102 = .ok (.aload_n 0, 1) := by decide +kernel
theorem dX1_append_103 : decode cX1_append 103 = .ok (.iload 5, 2) := by decide +kernel
theorem dX1_append_105 : decode cX1_append 105 = .ok (.iload 6, 2) := by decide +kernel
theorem dX1_append_107 : decode cX1_append 107 = .ok (.iconst 1, 1) := by decide +kernel
theorem dX1_append_108 : decode cX1_append 108 = .ok (.isub, 1) := by decide +kernel
theorem dX1_append_109 : decode cX1_append 109 = .ok (.invokevirtual 54, 3) := by decide +kernel
theorem dX1_append_112 : decode cX1_append 112 = .ok (.getfield 67, 3) := by decide +kernel
theorem dX1_append_115 : decode cX1_append 115 = .ok (.iadd, 1) := by decide +kernel
theorem dX1_append_116 : decode cX1_append 116 = .ok (.invokestatic 73, 3) := by decide +kernel
theorem dX1_append_119 : decode cX1_append 119 = .ok (.putfield 67, 3) := by decide +kernel
theorem dX1_append_122 : decode cX1_append 122 = .ok (.iinc 5 1, 3) := by decide +kernel
theorem dX1_append_125 : decode cX1_append 125 = .ok (.goto (-65), 3) := by decide +kernel
theorem dX1_append_128 : decode cX1_append 128 = .ok (.aload_n 0, 1) := by decide +kernel
theorem dX1_append_129 : decode cX1_append 129 = .ok (.aload 4, 2) := by decide +kernel
theorem dX1_append_131 : decode cX1_append 131 = .ok (.invokevirtual 79, 3) := by decide +kernel
theorem dX1_append_134 : decode cX1_append 134 = .ok (.aload_n 0, 1) := by decide +kernel
theorem dX1_append_135 : decode cX1_append 135 = .ok (.getfield 21, 3) := by decide +kernel
theorem dX1_append_138 : decode cX1_append 138 = .ok (.iload_n 1, 1) := by decide +kernel
theorem dX1_append_139 : decode cX1_append 139 = .ok (.dup2, 1) := by decide +kernel
theorem dX1_append_140 : decode cX1_append 140 = .ok (.iaload, 1) := by decide +kernel
theorem dX1_append_141 : decode cX1_append 141 = .ok (.iconst 1, 1) := by decide +kernel
theorem dX1_append_142 : decode cX1_append 142 = .ok (.iadd, 1) := by decide +kernel
theorem dX1_append_143 : decode cX1_append 143 = .ok (.iastore, 1) := by decide +kernel
theorem dX1_append_144 : decode cX1_append 144 = .ok (.aload_n 0, 1) := by decide +kernel
theorem dX1_append_145 : decode cX1_append 145 = .ok (.getfield 24, 3) := by decide +kernel
theorem dX1_append_148 : decode cX1_append 148 = .ok (.aload_n 0, 1) := by decide +kernel
theorem dX1_append_149 : decode cX1_append 149 = .ok (.getfield 38, 3) := by decide +kernel
theorem dX1_append_152 : decode cX1_append 152 = .ok (.iload_n 1, 1) := by decide +kernel
theorem dX1_append_153 : decode cX1_append 153 = .ok (.iload_n 1, 1) := by decide +kernel
theorem dX1_append_154 : decode cX1_append 154 = .ok (.invokestatic 41, 3) := by decide +kernel
theorem dX1_append_157 : decode cX1_append 157 = .ok (.dup2, 1) := by decide +kernel
theorem dX1_append_158 : decode cX1_append 158 = .ok (.iaload, 1) := by decide +kernel
theorem dX1_append_159 : decode cX1_append 159 = .ok (.iconst 1, 1) := by decide +kernel
theorem dX1_append_160 : decode cX1_append 160 = .ok (.iadd, 1) := by decide +kernel
theorem dX1_append_161 : decode cX1_append 161 = .ok (.iastore, 1) := by decide +kernel
theorem dX1_append_162 : decode cX1_append 162 = .ok (.aload_n 0, 1) := by decide +kernel
theorem dX1_append_163 : decode cX1_append 163 = .ok (.invokevirtual 83, 3) := by decide +kernel
theorem dX1_append_166 : decode cX1_append 166 = .ok (.aload 4, 2) := by decide +kernel
theorem dX1_append_168 : decode cX1_append 168 = .ok (.areturn, 1) := by decide +kernel
theorem dX1_putInOrder_0 : decode cX1_putInOrder 0 = .ok (.aload_n 0, 1) := by decide +kernel
theorem dX1_putInOrder_1 : decode cX1_putInOrder 1 = .ok (.getfield 34, 3) := by decide +kernel
theorem dX1_putInOrder_4 : decode cX1_putInOrder 4 = .ok (.istore_n 2, 1) := by decide +kernel
theorem dX1_putInOrder_5 : decode cX1_putInOrder 5 = .ok (.iload_n 2, 1) := by decide +kernel
theorem dX1_putInOrder_6 : decode cX1_putInOrder 6 = .ok (.ifCond .le 37, 3) := by decide +kernel
theorem dX1_putInOrder_9 : decode cX1_putInOrder 9 = .ok (.aload_n 1, 1) := by decide +kernel
theorem dX1_putInOrder_10 : decode cX1_putInOrder 10 = .ok (.aload_n 0, 1) := by decide +kernel
theorem dX1_putInOrder_11 : decode cX1_putInOrder 11 = .ok (.iload_n 2, 1) := by decide +kernel
theorem dX1_putInOrder_12 : decode cX1_putInOrder 12 = .ok (.iconst 1, 1) := by decide +kernel
theorem dX1_putInOrder_13 : decode cX1_putInOrder 13 = .ok (.isub, 1) := by decide +kernel
theorem dX1_putInOrder_14 : decode cX1_putInOrder 14 = .ok (.invokevirtual 86, 3) := by decide +kernel
theorem dX1_putInOrder_17 : decode cX1_putInOrder 17 = .ok (.invokevirtual 90, 3) := by decide +kernel
theorem dX1_putInOrder_20 : decode cX1_putInOrder 20 = .ok (.ifCond .eq 23, 3) := by decide +kernel
theorem dX1_putInOrder_23 : decode cX1_putInOrder 23 = .ok (.aload_n 0, 1) := by decide +kernel
theorem dX1_putInOrder_24 : decode cX1_putInOrder 24 = .ok (.getfield 17, 3) := by decide +kernel
theorem dX1_putInOrder_27 : decode cX1_putInOrder 27 = .ok (.iload_n 2, 1) := by decide +kernel
theorem dX1_putInOrder_28 : decode cX1_putInOrder 28 = .ok (.aload_n 0, 1) := by decide +kernel
theorem dX1_putInOrder_29 : decode cX1_putInOrder 29 = .ok (.getfield 17, 3) := by decide +kernel
theorem dX1_putInOrder_32 : decode cX1_putInOrder 32 = .ok (.iload_n 2, 1) := by decide +kernel
theorem dX1_putInOrder_33 : decode cX1_putInOrder 33 = .ok (.iconst 1, 1) := by decide +kernel
theorem dX1_putInOrder_34 : decode cX1_putInOrder 34 = .ok (.isub, 1) := by decide +kernel
theorem dX1_putInOrder_35 : decode cX1_putInOrder 35 = .ok (.iaload, 1) := by decide +kernel
theorem dX1_putInOrder_36 : decode cX1_putInOrder 36 = .ok (.iastore, 1) := by decide +kernel
theorem dX1_putInOrder_37 : decode cX1_putInOrder 37 = .ok (.iinc 2 (-1), 3) := by decide +kernel
theorem dX1_putInOrder_40 : decode cX1_putInOrder 40 = .ok (.goto (-35), 3) := by decide +kernel
theorem dX1_putInOrder_43 : decode cX1_putInOrder 43 = .ok (.aload_n 0, 1) := by decide +kernel
theorem dX1_putInOrder_44 : decode cX1_putInOrder 44 = .ok (.getfield 17, 3) := by decide +kernel
theorem dX1_putInOrder_47 : decode cX1_putInOrder 47 = .ok (.iload_n 2, 1) := by decide +kernel
theorem dX1_putInOrder_48 : decode cX1_putInOrder 48 = .ok (.aload_n 1, 1) := by decide +kernel
theorem dX1_putInOrder_49 : decode cX1_putInOrder 49 = .ok (.invokevirtual 94, 3) := by decide +kernel
theorem dX1_putInOrder_52 : decode cX1_putInOrder 52 = .ok (.iastore, 1) := by decide +kernel
theorem dX1_putInOrder_53 : decode cX1_putInOrder 53 = .ok (.aload_n 0, 1) := by decide +kernel
theorem dX1_putInOrder_54 : decode cX1_putInOrder 54 = .ok (.dup, 1) := by decide +kernel
theorem dX1_putInOrder_55 : decode cX1_putInOrder 55 = .ok (.getfield 34, 3) := by decide +kernel
theorem dX1_putInOrder_58 : decode cX1_putInOrder 58 = .ok (.iconst 1, 1) := by decide +kernel
theorem dX1_putInOrder_59 : decode cX1_putInOrder 59 = .ok (.iadd, 1) := by decide +kernel
theorem dX1_putInOrder_60 : decode cX1_putInOrder 60 = .ok (.putfield 34, 3) := by decide +kernel
theorem dX1_putInOrder_63 : decode cX1_putInOrder 63 = .ok (.return_, 1) := by decide +kernel
theorem dX1_leastUnmade_0 : decode cX1_leastUnmade 0 = .ok (.iconst 0, 1) := by decide +kernel
theorem dX1_leastUnmade_1 : decode cX1_leastUnmade 1 = .ok (.istore_n 2, 1) := by decide +kernel
theorem dX1_leastUnmade_2 : decode cX1_leastUnmade 2 = .ok (.iconst 0, 1) := by decide +kernel
theorem dX1_leastUnmade_3 : decode cX1_leastUnmade 3 = .ok (.istore_n 3, 1) := by decide +kernel
theorem dX1_leastUnmade_4 : decode cX1_leastUnmade 4 = .ok (.iload_n 3, 1) := by decide +kernel
theorem dX1_leastUnmade_5 : decode cX1_leastUnmade 5 = .ok (.aload_n 0, 1) := by decide +kernel
theorem dX1_leastUnmade_6 : decode cX1_leastUnmade 6 = .ok (.getfield 34, 3) := by decide +kernel
theorem dX1_leastUnmade_9 : decode cX1_leastUnmade 9 = .ok (.if_icmp .ge 48, 3) := by decide +kernel
theorem dX1_leastUnmade_12 : decode cX1_leastUnmade 12 = .ok (.aload_n 0, 1) := by decide +kernel
theorem dX1_leastUnmade_13 : decode cX1_leastUnmade 13 = .ok (.iload_n 3, 1) := by decide +kernel
theorem dX1_leastUnmade_14 : decode cX1_leastUnmade 14 = .ok (.invokevirtual 86, 3) := by decide +kernel
theorem dX1_leastUnmade_17 : decode cX1_leastUnmade 17 = .ok (.astore 4, 2) := by decide +kernel
theorem dX1_leastUnmade_19 : decode cX1_leastUnmade 19 = .ok (.aload 4, 2) := by decide +kernel
theorem dX1_leastUnmade_21 : decode cX1_leastUnmade 21 = .ok (.getfield 58, 3) := by decide +kernel
theorem dX1_leastUnmade_24 : decode cX1_leastUnmade 24 = .ok (.ifCond .ne 27, 3) := by decide +kernel
theorem dX1_leastUnmade_27 : decode cX1_leastUnmade 27 = .ok (.aload_n 0, 1) := by decide +kernel
theorem dX1_leastUnmade_28 : decode cX1_leastUnmade 28 = .ok (.aload_n 0, 1) := by decide +kernel
theorem dX1_leastUnmade_29 : decode cX1_leastUnmade 29 = .ok (.getfield 38, 3) := by decide +kernel
theorem dX1_leastUnmade_32 : decode cX1_leastUnmade 32 = .ok (.iload_n 1, 1) := by decide +kernel
theorem dX1_leastUnmade_33 : decode cX1_leastUnmade 33 = .ok (.aload 4, 2) := by decide +kernel
theorem dX1_leastUnmade_35 : decode cX1_leastUnmade 35 = .ok (.invokevirtual 98, 3) := by decide +kernel
theorem dX1_leastUnmade_38 : decode cX1_leastUnmade 38 = .ok (.ifCond .eq 13, 3) := by decide +kernel
theorem dX1_leastUnmade_41 : decode cX1_leastUnmade 41 = .ok (.iload_n 2, 1) := by decide +kernel
theorem dX1_leastUnmade_42 : decode cX1_leastUnmade 42 = .ok (.iconst 1, 1) := by decide +kernel
theorem dX1_leastUnmade_43 : decode cX1_leastUnmade 43 = .ok (.aload 4, 2) := by decide +kernel
theorem dX1_leastUnmade_45 : decode cX1_leastUnmade 45 = .ok (.getfield 61, 3) := by decide +kernel
theorem dX1_leastUnmade_48 : decode cX1_leastUnmade 48 = .ok (.ishl, 1) := by decide +kernel
theorem dX1_leastUnmade_49 : decode cX1_leastUnmade 49 = .ok (.ior, 1) := by decide +kernel
theorem dX1_leastUnmade_50 : decode cX1_leastUnmade 50 = .ok (.istore_n 2, 1) := by decide +kernel
theorem dX1_leastUnmade_51 : decode cX1_leastUnmade 51 = .ok (.iinc 3 1, 3) := by decide +kernel
theorem dX1_leastUnmade_54 : decode cX1_leastUnmade 54 = .ok (.goto (-50), 3) := by decide +kernel
theorem dX1_leastUnmade_57 : decode cX1_leastUnmade 57 = .ok (.iconst 1, 1) := by decide +kernel
theorem dX1_leastUnmade_58 : decode cX1_leastUnmade 58 = .ok (.istore_n 3, 1) := by decide +kernel
theorem dX1_leastUnmade_59 : decode cX1_leastUnmade 59 = .ok (.iload_n 3, 1) := by decide +kernel
theorem dX1_leastUnmade_60 : decode cX1_leastUnmade 60 = .ok (.bipush 12, 2) := by decide +kernel
theorem dX1_leastUnmade_62 : decode cX1_leastUnmade 62 = .ok (.if_icmp .ge 17, 3) := by decide +kernel
theorem dX1_leastUnmade_65 : decode cX1_leastUnmade 65 = .ok (.iload_n 2, 1) := by decide +kernel
theorem dX1_leastUnmade_66 : decode cX1_leastUnmade 66 = .ok (.iconst 1, 1) := by decide +kernel
theorem dX1_leastUnmade_67 : decode cX1_leastUnmade 67 = .ok (.iload_n 3, 1) := by decide +kernel
theorem dX1_leastUnmade_68 : decode cX1_leastUnmade 68 = .ok (.ishl, 1) := by decide +kernel
theorem dX1_leastUnmade_69 : decode cX1_leastUnmade 69 = .ok (.iand, 1) := by decide +kernel
theorem dX1_leastUnmade_70 : decode cX1_leastUnmade 70 = .ok (.ifCond .eq 9, 3) := by decide +kernel
theorem dX1_leastUnmade_73 : decode cX1_leastUnmade 73 = .ok (.iinc 3 1, 3) := by decide +kernel
theorem dX1_leastUnmade_76 : decode cX1_leastUnmade 76 = .ok (.goto (-17), 3) := by decide +kernel
theorem dX1_leastUnmade_79 : decode cX1_leastUnmade 79 = .ok (.iload_n 3, 1) := by decide +kernel
theorem dX1_leastUnmade_80 : decode cX1_leastUnmade 80 = .ok (.ireturn, 1) := by decide +kernel
theorem dX1_passOn_0 : decode cX1_passOn 0 = .ok (.iconst 0, 1) := by decide +kernel
theorem dX1_passOn_1 : decode cX1_passOn 1 = .ok (.istore 4, 2) := by decide +kernel
theorem dX1_passOn_3 : decode cX1_passOn 3 = .ok (.iconst 0, 1) := by decide +kernel
theorem dX1_passOn_4 : decode cX1_passOn 4 = .ok (.istore 5, 2) := by decide +kernel
theorem dX1_passOn_6 : decode cX1_passOn 6 = .ok (.iload 5, 2) := by decide +kernel
theorem dX1_passOn_8 : decode cX1_passOn 8 = .ok (.aload_n 0, 1) := by decide +kernel
theorem dX1_passOn_9 : decode cX1_passOn 9 = .ok (.getfield 34, 3) := by decide +kernel
theorem dX1_passOn_12 : decode cX1_passOn 12 = .ok (.if_icmp .ge 79, 3) := by decide +kernel
theorem dX1_passOn_15 : decode cX1_passOn 15 = .ok (.iload 4, 2) := by decide +kernel
theorem dX1_passOn_17 : decode cX1_passOn 17 = .ok (.iload_n 3, 1) := by decide +kernel
theorem dX1_passOn_18 : decode cX1_passOn 18 = .ok (.if_icmp .ge 73, 3) := by decide +kernel
theorem dX1_passOn_21 : decode cX1_passOn 21 = .ok (.aload_n 0, 1) := by decide +kernel
theorem dX1_passOn_22 : decode cX1_passOn 22 = .ok (.iload 5, 2) := by decide +kernel
theorem dX1_passOn_24 : decode cX1_passOn 24 = .ok (.invokevirtual 86, 3) := by decide +kernel
theorem dX1_passOn_27 : decode cX1_passOn 27 = .ok (.astore 6, 2) := by decide +kernel
theorem dX1_passOn_29 : decode cX1_passOn 29 = .ok (.aload_n 0, 1) := by decide +kernel
theorem dX1_passOn_30 : decode cX1_passOn 30 = .ok (.aload_n 0, 1) := by decide +kernel
theorem dX1_passOn_31 : decode cX1_passOn 31 = .ok (.getfield 38, 3) := by decide +kernel
theorem dX1_passOn_34 : decode cX1_passOn 34 = .ok (.iload_n 1, 1) := by decide +kernel
theorem dX1_passOn_35 : decode cX1_passOn 35 = .ok (.aload 6, 2) := by decide +kernel
theorem dX1_passOn_37 : decode cX1_passOn 37 = .ok (.invokevirtual 98, 3) := by decide +kernel
theorem dX1_passOn_40 : decode cX1_passOn 40 = .ok (.ifCond .eq 45, 3) := by decide +kernel
theorem dX1_passOn_43 : decode cX1_passOn 43 = .ok (.aload_n 0, 1) := by decide +kernel
theorem dX1_passOn_44 : decode cX1_passOn 44 = .ok (.aload_n 0, 1) := by decide +kernel
theorem dX1_passOn_45 : decode cX1_passOn 45 = .ok (.getfield 38, 3) := by decide +kernel
theorem dX1_passOn_48 : decode cX1_passOn 48 = .ok (.iload_n 2, 1) := by decide +kernel
theorem dX1_passOn_49 : decode cX1_passOn 49 = .ok (.aload 6, 2) := by decide +kernel
theorem dX1_passOn_51 : decode cX1_passOn 51 = .ok (.invokevirtual 98, 3) := by decide +kernel
theorem dX1_passOn_54 : decode cX1_passOn 54 = .ok (.ifCond .ne 31, 3) := by decide +kernel
theorem dX1_passOn_57 : decode cX1_passOn 57 = .ok (.aload_n 0, 1) := by decide +kernel
theorem dX1_passOn_58 : decode cX1_passOn 58 = .ok (.getfield 24, 3) := by decide +kernel
theorem dX1_passOn_61 : decode cX1_passOn 61 = .ok (.aload_n 0, 1) := by decide +kernel
theorem dX1_passOn_62 : decode cX1_passOn 62 = .ok (.getfield 38, 3) := by decide +kernel
theorem dX1_passOn_65 : decode cX1_passOn 65 = .ok (.iload_n 2, 1) := by decide +kernel
theorem dX1_passOn_66 : decode cX1_passOn 66 = .ok (.aload 6, 2) := by decide +kernel
theorem dX1_passOn_68 : decode cX1_passOn 68 = .ok (.getfield 48, 3) := by decide +kernel
theorem dX1_passOn_71 : decode cX1_passOn 71 = .ok (.invokestatic 41, 3) := by decide +kernel
theorem dX1_passOn_74 : decode cX1_passOn 74 = .ok (.aload 6, 2) := by decide +kernel
theorem dX1_passOn_76 : decode cX1_passOn 76 = .ok (.getfield 45, 3) := by decide +kernel
theorem dX1_passOn_79 : decode cX1_passOn 79 = .ok (.iconst 1, 1) := by decide +kernel
theorem dX1_passOn_80 : decode cX1_passOn 80 = .ok (.iadd, 1) := by decide +kernel
theorem dX1_passOn_81 : decode cX1_passOn 81 = .ok (.iastore, 1) := by decide +kernel
theorem dX1_passOn_82 : decode cX1_passOn 82 = .ok (.iinc 4 1, 3) := by decide +kernel
theorem dX1_passOn_85 : decode cX1_passOn 85 = .ok (.iinc 5 1, 3) := by decide +kernel
theorem dX1_passOn_88 : decode cX1_passOn 88 = .ok (.goto (-82), 3) := by decide +kernel
theorem dX1_passOn_91 : decode cX1_passOn 91 = .ok (.iload 4, 2) := by decide +kernel
theorem dX1_passOn_93 : decode cX1_passOn 93 = .ok (.ireturn, 1) := by decide +kernel
theorem dX1_nextDay_0 : decode cX1_nextDay 0 = .ok (.bipush 16, 2) := by decide +kernel
theorem dX1_nextDay_2 : decode cX1_nextDay 2 = .ok (.istore_n 1, 1) := by decide +kernel
theorem dX1_nextDay_3 : decode cX1_nextDay 3 = .ok (.aload_n 0, 1) := by decide +kernel
theorem dX1_nextDay_4 : decode cX1_nextDay 4 = .ok (.getfield 24, 3) := by decide +kernel
theorem dX1_nextDay_7 : decode cX1_nextDay 7 = .ok (.aload_n 0, 1) := by decide +kernel
theorem dX1_nextDay_8 : decode cX1_nextDay 8 = .ok (.getfield 38, 3) := by decide +kernel
theorem dX1_nextDay_11 : decode cX1_nextDay 11 = .ok (.iload_n 1, 1) := by decide +kernel
theorem dX1_nextDay_12 : decode cX1_nextDay 12 = .ok (.imul, 1) := by decide +kernel
theorem dX1_nextDay_13 : decode cX1_nextDay 13 = .ok (.aload_n 0, 1) := by decide +kernel
theorem dX1_nextDay_14 : decode cX1_nextDay 14 = .ok (.getfield 24, 3) := by decide +kernel
theorem dX1_nextDay_17 : decode cX1_nextDay 17 = .ok (.aload_n 0, 1) := by decide +kernel
theorem dX1_nextDay_18 : decode cX1_nextDay 18 = .ok (.getfield 38, 3) := by decide +kernel
theorem dX1_nextDay_21 : decode cX1_nextDay 21 = .ok (.iconst 1, 1) := by decide +kernel
theorem dX1_nextDay_22 : decode cX1_nextDay 22 = .ok (.iadd, 1) := by decide +kernel
theorem dX1_nextDay_23 : decode cX1_nextDay 23 = .ok (.iload_n 1, 1) := by decide +kernel
theorem dX1_nextDay_24 : decode cX1_nextDay 24 = .ok (.imul, 1) := by decide +kernel
theorem dX1_nextDay_25 : decode cX1_nextDay 25 = .ok (.iload_n 1, 1) := by decide +kernel
theorem dX1_nextDay_26 : decode cX1_nextDay 26 = .ok (.invokestatic 102, 3) := by decide +kernel
theorem dX1_nextDay_29 : decode cX1_nextDay 29 = .ok (.aload_n 0, 1) := by decide +kernel
theorem dX1_nextDay_30 : decode cX1_nextDay 30 = .ok (.dup, 1) := by decide +kernel
theorem dX1_nextDay_31 : decode cX1_nextDay 31 = .ok (.getfield 38, 3) := by decide +kernel
theorem dX1_nextDay_34 : decode cX1_nextDay 34 = .ok (.iconst 1, 1) := by decide +kernel
theorem dX1_nextDay_35 : decode cX1_nextDay 35 = .ok (.iadd, 1) := by decide +kernel
theorem dX1_nextDay_36 : decode cX1_nextDay 36 = .ok (.putfield 38, 3) := by decide +kernel
theorem dX1_nextDay_39 : decode cX1_nextDay 39 = .ok (.return_, 1) := by decide +kernel
theorem dX1_setApart_0 : decode cX1_setApart 0 = .ok (.aload_n 0, 1) := by decide +kernel
theorem dX1_setApart_1 : decode cX1_setApart 1 = .ok (.getfield 27, 3) := by decide +kernel
theorem dX1_setApart_4 : decode cX1_setApart 4 = .ok (.iload_n 1, 1) := by decide +kernel
theorem dX1_setApart_5 : decode cX1_setApart 5 = .ok (.iaload, 1) := by decide +kernel
theorem dX1_setApart_6 : decode cX1_setApart 6 = .ok (.istore_n 3, 1) := by decide +kernel
theorem dX1_setApart_7 : decode cX1_setApart 7 = .ok (.aload_n 0, 1) := by decide +kernel
theorem dX1_setApart_8 : decode cX1_setApart 8 = .ok (.getfield 27, 3) := by decide +kernel
theorem dX1_setApart_11 : decode cX1_setApart 11 = .ok (.iload_n 1, 1) := by decide +kernel
theorem dX1_setApart_12 : decode cX1_setApart 12 = .ok (.iload_n 2, 1) := by decide +kernel
theorem dX1_setApart_13 : decode cX1_setApart 13 = .ok (.iastore, 1) := by decide +kernel
theorem dX1_setApart_14 : decode cX1_setApart 14 = .ok (.aload_n 0, 1) := by decide +kernel
theorem dX1_setApart_15 : decode cX1_setApart 15 = .ok (.invokevirtual 83, 3) := by decide +kernel
theorem dX1_setApart_18 : decode cX1_setApart 18 = .ok (.iload_n 3, 1) := by decide +kernel
theorem dX1_setApart_19 : decode cX1_setApart 19 = .ok (.ireturn, 1) := by decide +kernel
theorem dX1_findLeftOut_0 : decode cX1_findLeftOut 0 = .ok (.iconst 0, 1) := by decide +kernel
theorem dX1_findLeftOut_1 : decode cX1_findLeftOut 1 = .ok (.istore_n 1, 1) := by decide +kernel
theorem dX1_findLeftOut_2 : decode cX1_findLeftOut 2 = .ok (.iload_n 1, 1) := by decide +kernel
theorem dX1_findLeftOut_3 : decode cX1_findLeftOut 3 = .ok (.iconst 4, 1) := by decide +kernel
theorem dX1_findLeftOut_4 : decode cX1_findLeftOut 4 = .ok (.if_icmp .ge 37, 3) := by decide +kernel
theorem dX1_findLeftOut_7 : decode cX1_findLeftOut 7 = .ok (.aload_n 0, 1) := by decide +kernel
theorem dX1_findLeftOut_8 : decode cX1_findLeftOut 8 = .ok (.getfield 30, 3) := by decide +kernel
theorem dX1_findLeftOut_11 : decode cX1_findLeftOut 11 = .ok (.iload_n 1, 1) := by decide +kernel
theorem dX1_findLeftOut_12 : decode cX1_findLeftOut 12 = .ok (.aload_n 0, 1) := by decide +kernel
theorem dX1_findLeftOut_13 : decode cX1_findLeftOut 13 = .ok (.getfield 27, 3) := by decide +kernel
theorem dX1_findLeftOut_16 : decode cX1_findLeftOut 16 = .ok (.iload_n 1, 1) := by decide +kernel
theorem dX1_findLeftOut_17 : decode cX1_findLeftOut 17 = .ok (.iaload, 1) := by decide +kernel
theorem dX1_findLeftOut_18 : decode cX1_findLeftOut 18 = .ok (.bipush (-9), 2) := by decide +kernel
theorem dX1_findLeftOut_20 : decode cX1_findLeftOut 20 = .ok (.if_icmp .ne 8, 3) := by decide +kernel
theorem dX1_findLeftOut_23 : decode cX1_findLeftOut 23 = .ok (.bipush 20, 2) := by decide +kernel
theorem dX1_findLeftOut_25 : decode cX1_findLeftOut 25 = .ok (.goto 9, 3) := by decide +kernel
theorem dX1_findLeftOut_28 : decode cX1_findLeftOut 28 = .ok (.aload_n 0, 1) := by decide +kernel
theorem dX1_findLeftOut_29 : decode cX1_findLeftOut 29 = .ok (.getfield 27, 3) := by decide +kernel
theorem dX1_findLeftOut_32 : decode cX1_findLeftOut 32 = .ok (.iload_n 1, 1) := by decide +kernel
theorem dX1_findLeftOut_33 : decode cX1_findLeftOut 33 = .ok (.iaload, 1) := by decide +kernel
theorem dX1_findLeftOut_34 : decode cX1_findLeftOut 34 = .ok (.iastore, 1) := by decide +kernel
theorem dX1_findLeftOut_35 : decode cX1_findLeftOut 35 = .ok (.iinc 1 1, 3) := by decide +kernel
theorem dX1_findLeftOut_38 : decode cX1_findLeftOut 38 = .ok (.goto (-36), 3) := by decide +kernel
theorem dX1_findLeftOut_41 : decode cX1_findLeftOut 41 = .ok (.iconst 0, 1) := by decide +kernel
theorem dX1_findLeftOut_42 : decode cX1_findLeftOut 42 = .ok (.istore_n 1, 1) := by decide +kernel
theorem dX1_findLeftOut_43 : decode cX1_findLeftOut 43 = .ok (.iload_n 1, 1) := by decide +kernel
theorem dX1_findLeftOut_44 : decode cX1_findLeftOut 44 = .ok (.aload_n 0, 1) := by decide +kernel
theorem dX1_findLeftOut_45 : decode cX1_findLeftOut 45 = .ok (.getfield 34, 3) := by decide +kernel
theorem dX1_findLeftOut_48 : decode cX1_findLeftOut 48 = .ok (.if_icmp .ge 48, 3) := by decide +kernel
theorem dX1_findLeftOut_51 : decode cX1_findLeftOut 51 = .ok (.aload_n 0, 1) := by decide +kernel
theorem dX1_findLeftOut_52 : decode cX1_findLeftOut 52 = .ok (.iload_n 1, 1) := by decide +kernel
theorem dX1_findLeftOut_53 : decode cX1_findLeftOut 53 = .ok (.invokevirtual 86, 3) := by decide +kernel
theorem dX1_findLeftOut_56 : decode cX1_findLeftOut 56 = .ok (.astore_n 2, 1) := by decide +kernel
theorem dX1_findLeftOut_57 : decode cX1_findLeftOut 57 = .ok (.aload_n 0, 1) := by decide +kernel
theorem dX1_findLeftOut_58 : decode cX1_findLeftOut 58 = .ok (.aload_n 2, 1) := by decide +kernel
theorem dX1_findLeftOut_59 : decode cX1_findLeftOut 59 = .ok (.invokevirtual 108, 3) := by decide +kernel
theorem dX1_findLeftOut_62 : decode cX1_findLeftOut 62 = .ok (.ifCond .eq 28, 3) := by decide +kernel
theorem dX1_findLeftOut_65 : decode cX1_findLeftOut 65 = .ok (.aload_n 0, 1) := by decide +kernel
theorem dX1_findLeftOut_66 : decode cX1_findLeftOut 66 = .ok (.getfield 30, 3) := by decide +kernel
theorem dX1_findLeftOut_69 : decode cX1_findLeftOut 69 = .ok (.aload_n 2, 1) := by decide +kernel
theorem dX1_findLeftOut_70 : decode cX1_findLeftOut 70 = .ok (.getfield 48, 3) := by decide +kernel
theorem dX1_findLeftOut_73 : decode cX1_findLeftOut 73 = .ok (.aload_n 0, 1) := by decide +kernel
theorem dX1_findLeftOut_74 : decode cX1_findLeftOut 74 = .ok (.getfield 30, 3) := by decide +kernel
theorem dX1_findLeftOut_77 : decode cX1_findLeftOut 77 = .ok (.aload_n 2, 1) := by decide +kernel
theorem dX1_findLeftOut_78 : decode cX1_findLeftOut 78 = .ok (.getfield 48, 3) := by decide +kernel
theorem dX1_findLeftOut_81 : decode cX1_findLeftOut 81 = .ok (.iaload, 1) := by decide +kernel
theorem dX1_findLeftOut_82 : decode cX1_findLeftOut 82 = .ok (.aload_n 2, 1) := by decide +kernel
theorem dX1_findLeftOut_83 : decode cX1_findLeftOut 83 = .ok (.getfield 45, 3) := by decide +kernel
theorem dX1_findLeftOut_86 : decode cX1_findLeftOut 86 = .ok (.invokestatic 111, 3) := by decide +kernel
theorem dX1_findLeftOut_89 : decode cX1_findLeftOut 89 = .ok (.iastore, 1) := by decide +kernel
theorem dX1_findLeftOut_90 : decode cX1_findLeftOut 90 = .ok (.iinc 1 1, 3) := by decide +kernel
theorem dX1_findLeftOut_93 : decode cX1_findLeftOut 93 = .ok (.goto (-50), 3) := by decide +kernel
theorem dX1_findLeftOut_96 : decode cX1_findLeftOut 96 = .ok (.return_, 1) := by decide +kernel
theorem dX1_standsOnLeftOut_0 : decode cX1_standsOnLeftOut 0 = .ok (.iconst 0, 1) := by decide +kernel
theorem dX1_standsOnLeftOut_1 : decode cX1_standsOnLeftOut 1 = .ok (.istore_n 2, 1) := by decide +kernel
theorem dX1_standsOnLeftOut_2 : decode cX1_standsOnLeftOut 2 = .ok (.iload_n 2, 1) := by decide +kernel
theorem dX1_standsOnLeftOut_3 : decode cX1_standsOnLeftOut 3 = .ok (.iconst 4, 1) := by decide +kernel
theorem dX1_standsOnLeftOut_4 : decode cX1_standsOnLeftOut 4 = .ok (.if_icmp .ge 26, 3) := by decide +kernel
theorem dX1_standsOnLeftOut_7 : decode cX1_standsOnLeftOut 7 = .ok (.aload_n 1, 1) := by decide +kernel
theorem dX1_standsOnLeftOut_8 : decode cX1_standsOnLeftOut 8 = .ok (.getfield 70, 3) := by decide +kernel
theorem dX1_standsOnLeftOut_11 : decode cX1_standsOnLeftOut 11 = .ok (.iload_n 2, 1) := by decide +kernel
theorem dX1_standsOnLeftOut_12 : decode cX1_standsOnLeftOut 12 = .ok (.iaload, 1) := by decide +kernel
theorem dX1_standsOnLeftOut_13 : decode cX1_standsOnLeftOut 13 = .ok (.aload_n 0, 1) := by decide +kernel
theorem dX1_standsOnLeftOut_14 : decode cX1_standsOnLeftOut 14 = .ok (.getfield 30, 3) := by decide +kernel
theorem dX1_standsOnLeftOut_17 : decode cX1_standsOnLeftOut 17 = .ok (.iload_n 2, 1) := by decide +kernel
theorem dX1_standsOnLeftOut_18 : decode cX1_standsOnLeftOut 18 = .ok (.iaload, 1) := by decide +kernel
theorem dX1_standsOnLeftOut_19 : decode cX1_standsOnLeftOut 19 = .ok (.if_icmp .le 5, 3) := by decide +kernel
theorem dX1_standsOnLeftOut_22 : decode cX1_standsOnLeftOut 22 = .ok (.iconst 1, 1) := by decide +kernel
theorem dX1_standsOnLeftOut_23 : decode cX1_standsOnLeftOut 23 = .ok (.ireturn, 1) := by decide +kernel
theorem dX1_standsOnLeftOut_24 : decode cX1_standsOnLeftOut 24 = .ok (.iinc 2 1, 3) := by decide +kernel
theorem dX1_standsOnLeftOut_27 : decode cX1_standsOnLeftOut 27 = .ok (.goto (-25), 3) := by decide +kernel
theorem dX1_standsOnLeftOut_30 : decode cX1_standsOnLeftOut 30 = .ok (.iconst 0, 1) := by decide +kernel
theorem dX1_standsOnLeftOut_31 : decode cX1_standsOnLeftOut 31 = .ok (.ireturn, 1) := by decide +kernel
theorem dX1_isLeftOut_0 : decode cX1_isLeftOut 0 = .ok (.aload_n 1, 1) := by decide +kernel
theorem dX1_isLeftOut_1 : decode cX1_isLeftOut 1 = .ok (.getfield 45, 3) := by decide +kernel
theorem dX1_isLeftOut_4 : decode cX1_isLeftOut 4 = .ok (.aload_n 0, 1) := by decide +kernel
theorem dX1_isLeftOut_5 : decode cX1_isLeftOut 5 = .ok (.getfield 30, 3) := by decide +kernel
theorem dX1_isLeftOut_8 : decode cX1_isLeftOut 8 = .ok (.aload_n 1, 1) := by decide +kernel
theorem dX1_isLeftOut_9 : decode cX1_isLeftOut 9 = .ok (.getfield 48, 3) := by decide +kernel
theorem dX1_isLeftOut_12 : decode cX1_isLeftOut 12 = .ok (.iaload, 1) := by decide +kernel
theorem dX1_isLeftOut_13 : decode cX1_isLeftOut 13 = .ok (.if_icmp .lt 7, 3) := by decide +kernel
theorem dX1_isLeftOut_16 : decode cX1_isLeftOut 16 = .ok (.iconst 1, 1) := by decide +kernel
theorem dX1_isLeftOut_17 : decode cX1_isLeftOut 17 = .ok (.goto 4, 3) := by decide +kernel
theorem dX1_isLeftOut_20 : decode cX1_isLeftOut 20 = .ok (.iconst 0, 1) := by decide +kernel
theorem dX1_isLeftOut_21 : decode cX1_isLeftOut 21 = .ok (.ireturn, 1) := by decide +kernel
theorem dX1_leftOutInAll_0 : decode cX1_leftOutInAll 0 = .ok (.iconst 0, 1) := by decide +kernel
theorem dX1_leftOutInAll_1 : decode cX1_leftOutInAll 1 = .ok (.istore_n 1, 1) := by decide +kernel
theorem dX1_leftOutInAll_2 : decode cX1_leftOutInAll 2 = .ok (.iconst 0, 1) := by decide +kernel
theorem dX1_leftOutInAll_3 : decode cX1_leftOutInAll 3 = .ok (.istore_n 2, 1) := by decide +kernel
theorem dX1_leftOutInAll_4 : decode cX1_leftOutInAll 4 = .ok (.iload_n 2, 1) := by decide +kernel
theorem dX1_leftOutInAll_5 : decode cX1_leftOutInAll 5 = .ok (.iconst 4, 1) := by decide +kernel
theorem dX1_leftOutInAll_6 : decode cX1_leftOutInAll 6 = .ok (.if_icmp .ge 29, 3) := by decide +kernel
theorem dX1_leftOutInAll_9 : decode cX1_leftOutInAll 9 = .ok (.iload_n 1, 1) := by decide +kernel
theorem dX1_leftOutInAll_10 : decode cX1_leftOutInAll 10 = .ok (.iconst 0, 1) := by decide +kernel
theorem dX1_leftOutInAll_11 : decode cX1_leftOutInAll 11 = .ok (.aload_n 0, 1) := by decide +kernel
theorem dX1_leftOutInAll_12 : decode cX1_leftOutInAll 12 = .ok (.getfield 21, 3) := by decide +kernel
theorem dX1_leftOutInAll_15 : decode cX1_leftOutInAll 15 = .ok (.iload_n 2, 1) := by decide +kernel
theorem dX1_leftOutInAll_16 : decode cX1_leftOutInAll 16 = .ok (.iaload, 1) := by decide +kernel
theorem dX1_leftOutInAll_17 : decode cX1_leftOutInAll 17 = .ok (.aload_n 0, 1) := by decide +kernel
theorem dX1_leftOutInAll_18 : decode cX1_leftOutInAll 18 = .ok (.getfield 30, 3) := by decide +kernel
theorem dX1_leftOutInAll_21 : decode cX1_leftOutInAll 21 = .ok (.iload_n 2, 1) := by decide +kernel
theorem dX1_leftOutInAll_22 : decode cX1_leftOutInAll 22 = .ok (.iaload, 1) := by decide +kernel
theorem dX1_leftOutInAll_23 : decode cX1_leftOutInAll 23 = .ok (.isub, 1) := by decide +kernel
theorem dX1_leftOutInAll_24 : decode cX1_leftOutInAll 24 = .ok (.invokestatic 73, 3) := by decide +kernel
theorem dX1_leftOutInAll_27 : decode cX1_leftOutInAll 27 = .ok (.iadd, 1) := by decide +kernel
theorem dX1_leftOutInAll_28 : decode cX1_leftOutInAll 28 = .ok (.istore_n 1, 1) := by decide +kernel
theorem dX1_leftOutInAll_29 : decode cX1_leftOutInAll 29 = .ok (.iinc 2 1, 3) := by decide +kernel
theorem dX1_leftOutInAll_32 : decode cX1_leftOutInAll 32 = .ok (.goto (-28), 3) := by decide +kernel
theorem dX1_leftOutInAll_35 : decode cX1_leftOutInAll 35 = .ok (.iload_n 1, 1) := by decide +kernel
theorem dX1_leftOutInAll_36 : decode cX1_leftOutInAll 36 = .ok (.ireturn, 1) := by decide +kernel
theorem dX1_madeOnDay_0 : decode cX1_madeOnDay 0 = .ok (.iconst 0, 1) := by decide +kernel
theorem dX1_madeOnDay_1 : decode cX1_madeOnDay 1 = .ok (.istore_n 3, 1) := by decide +kernel
theorem dX1_madeOnDay_2 : decode cX1_madeOnDay 2 = .ok (.iconst 0, 1) := by decide +kernel
theorem dX1_madeOnDay_3 : decode cX1_madeOnDay 3 = .ok (.istore 4, 2) := by decide +kernel
theorem dX1_madeOnDay_5 : decode cX1_madeOnDay 5 = .ok (.iload 4, 2) := by decide +kernel
theorem dX1_madeOnDay_7 : decode cX1_madeOnDay 7 = .ok (.aload_n 0, 1) := by decide +kernel
theorem dX1_madeOnDay_8 : decode cX1_madeOnDay 8 = .ok (.getfield 21, 3) := by decide +kernel
theorem dX1_madeOnDay_11 : decode cX1_madeOnDay 11 = .ok (.iload_n 1, 1) := by decide +kernel
theorem dX1_madeOnDay_12 : decode cX1_madeOnDay 12 = .ok (.iaload, 1) := by decide +kernel
theorem dX1_madeOnDay_13 : decode cX1_madeOnDay 13 = .ok (.if_icmp .ge 26, 3) := by decide +kernel
theorem dX1_madeOnDay_16 : decode cX1_madeOnDay 16 = .ok (.aload_n 0, 1) := by decide +kernel
theorem dX1_madeOnDay_17 : decode cX1_madeOnDay 17 = .ok (.iload_n 1, 1) := by decide +kernel
theorem dX1_madeOnDay_18 : decode cX1_madeOnDay 18 = .ok (.iload 4, 2) := by decide +kernel
theorem dX1_madeOnDay_20 : decode cX1_madeOnDay 20 = .ok (.invokevirtual 54, 3) := by decide +kernel
theorem dX1_madeOnDay_23 : decode cX1_madeOnDay 23 = .ok (.getfield 64, 3) := by decide +kernel
theorem dX1_madeOnDay_26 : decode cX1_madeOnDay 26 = .ok (.iload_n 2, 1) := by decide +kernel
theorem dX1_madeOnDay_27 : decode cX1_madeOnDay 27 = .ok (.if_icmp .ne 6, 3) := by decide +kernel
theorem dX1_madeOnDay_30 : decode cX1_madeOnDay 30 = .ok (.iinc 3 1, 3) := by decide +kernel
theorem dX1_madeOnDay_33 : decode cX1_madeOnDay 33 = .ok (.iinc 4 1, 3) := by decide +kernel
theorem dX1_madeOnDay_36 : decode cX1_madeOnDay 36 = .ok (.goto (-31), 3) := by decide +kernel
theorem dX1_madeOnDay_39 : decode cX1_madeOnDay 39 = .ok (.iload_n 3, 1) := by decide +kernel
theorem dX1_madeOnDay_40 : decode cX1_madeOnDay 40 = .ok (.ireturn, 1) := by decide +kernel
