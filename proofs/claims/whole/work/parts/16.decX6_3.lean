theorem dX6_thing_62 : decode cX6_thing 62 = .ok (.goto 5, 3) := by decide +kernel
theorem dX6_thing_65 : decode cX6_thing 65 = .ok (.bipush (-2), 2) := by decide +kernel
theorem dX6_thing_67 : decode cX6_thing 67 = .ok (.ireturn, 1) := by decide +kernel
theorem dX6_thing_68 : decode cX6_thing 68 = .ok (.iload 4, 2) := by decide +kernel
theorem dX6_thing_70 : decode cX6_thing 70 = .ok (.ifCond .ne 26, 3) := by decide +kernel
theorem dX6_thing_73 : decode cX6_thing 73 = .ok (.aload_n 0, 1) := by decide +kernel
theorem dX6_thing_74 : decode cX6_thing 74 = .ok (.getfield 64, 3) := by decide +kernel
theorem dX6_thing_77 : decode cX6_thing 77 = .ok (.iload_n 2, 1) := by decide +kernel
theorem dX6_thing_78 : decode cX6_thing 78 = .ok (.iaload, 1) := by decide +kernel
theorem dX6_thing_79 : decode cX6_thing 79 = .ok (.iconst 1, 1) := by decide +kernel
theorem dX6_thing_80 : decode cX6_thing 80 = .ok (.if_icmp .le 7, 3) := by decide +kernel
theorem dX6_thing_83 : decode cX6_thing 83 = .ok (.iconst 5, 1) := by decide +kernel
theorem dX6_thing_84 : decode cX6_thing 84 = .ok (.goto 57, 3) := by decide +kernel
theorem dX6_thing_87 : decode cX6_thing 87 = .ok (.aload_n 0, 1) := by decide +kernel
theorem dX6_thing_88 : decode cX6_thing 88 = .ok (.getfield 49, 3) := by decide +kernel
theorem dX6_thing_91 : decode cX6_thing 91 = .ok (.iload_n 2, 1) := by decide +kernel
theorem dX6_thing_92 : decode cX6_thing 92 = .ok (.iaload, 1) := by decide +kernel
theorem dX6_thing_93 : decode cX6_thing 93 = .ok (.goto 48, 3) := by decide +kernel
theorem dX6_thing_96 : decode cX6_thing 96 = .ok (.iload 4, 2) := by decide +kernel
theorem dX6_thing_98 : decode cX6_thing 98 = .ok (.iconst 1, 1) := by decide +kernel
theorem dX6_thing_99 : decode cX6_thing 99 = .ok (.if_icmp .ne 21, 3) := by decide +kernel
theorem dX6_thing_102 : decode cX6_thing 102 = .ok (.iload_n 2, 1) := by decide +kernel
theorem dX6_thing_103 : decode cX6_thing 103 = .ok (.ifCond .ne 8, 3) := by decide +kernel
theorem dX6_thing_106 : decode cX6_thing 106 = .ok (.bipush (-9), 2) := by decide +kernel
theorem dX6_thing_108 : decode cX6_thing 108 = .ok (.goto 33, 3) := by decide +kernel
theorem dX6_thing_111 : decode cX6_thing 111 = .ok (.aload_n 0, 1) := by decide +kernel
theorem dX6_thing_112 : decode cX6_thing 112 = .ok (.getfield 52, 3) := by decide +kernel
theorem dX6_thing_115 : decode cX6_thing 115 = .ok (.iload_n 2, 1) := by decide +kernel
theorem dX6_thing_116 : decode cX6_thing 116 = .ok (.iaload, 1) := by decide +kernel
theorem dX6_thing_117 : decode cX6_thing 117 = .ok (.goto 24, 3) := by decide +kernel
theorem dX6_thing_120 : decode cX6_thing 120 = .ok (.iload 4, 2) := by decide +kernel
theorem dX6_thing_122 : decode cX6_thing 122 = .ok (.iconst 2, 1) := by decide +kernel
theorem dX6_thing_123 : decode cX6_thing 123 = .ok (.if_icmp .ne 12, 3) := by decide +kernel
theorem dX6_thing_126 : decode cX6_thing 126 = .ok (.aload_n 0, 1) := by decide +kernel
theorem dX6_thing_127 : decode cX6_thing 127 = .ok (.getfield 61, 3) := by decide +kernel
theorem dX6_thing_130 : decode cX6_thing 130 = .ok (.iload_n 2, 1) := by decide +kernel
theorem dX6_thing_131 : decode cX6_thing 131 = .ok (.iaload, 1) := by decide +kernel
theorem dX6_thing_132 : decode cX6_thing 132 = .ok (.goto 9, 3) := by decide +kernel
theorem dX6_thing_135 : decode cX6_thing 135 = .ok (.aload_n 0, 1) := by decide +kernel
theorem dX6_thing_136 : decode cX6_thing 136 = .ok (.getfield 64, 3) := by decide +kernel
theorem dX6_thing_139 : decode cX6_thing 139 = .ok (.iload_n 2, 1) := by decide +kernel
theorem dX6_thing_140 : decode cX6_thing 140 = .ok (.iaload, 1) := by decide +kernel
theorem dX6_thing_141 : decode cX6_thing 141 = .ok (.ireturn, 1) := by decide +kernel
theorem dX6_sizeOf_0 : decode cX6_sizeOf 0 = .ok (.aload_n 0, 1) := by decide +kernel
theorem dX6_sizeOf_1 : decode cX6_sizeOf 1 = .ok (.getfield 17, 3) := by decide +kernel
theorem dX6_sizeOf_4 : decode cX6_sizeOf 4 = .ok (.bipush 12, 2) := by decide +kernel
theorem dX6_sizeOf_6 : decode cX6_sizeOf 6 = .ok (.iload_n 1, 1) := by decide +kernel
theorem dX6_sizeOf_7 : decode cX6_sizeOf 7 = .ok (.imul, 1) := by decide +kernel
theorem dX6_sizeOf_8 : decode cX6_sizeOf 8 = .ok (.iconst 3, 1) := by decide +kernel
theorem dX6_sizeOf_9 : decode cX6_sizeOf 9 = .ok (.iadd, 1) := by decide +kernel
theorem dX6_sizeOf_10 : decode cX6_sizeOf 10 = .ok (.iaload, 1) := by decide +kernel
theorem dX6_sizeOf_11 : decode cX6_sizeOf 11 = .ok (.ireturn, 1) := by decide +kernel
theorem dX6_bytes_0 : decode cX6_bytes 0 = .ok (.aload_n 0, 1) := by decide +kernel
theorem dX6_bytes_1 : decode cX6_bytes 1 = .ok (.iconst 0, 1) := by decide +kernel
theorem dX6_bytes_2 : decode cX6_bytes 2 = .ok (.putfield 106, 3) := by decide +kernel
theorem dX6_bytes_5 : decode cX6_bytes 5 = .ok (.aload_n 0, 1) := by decide +kernel
theorem dX6_bytes_6 : decode cX6_bytes 6 = .ok (.iload_n 1, 1) := by decide +kernel
theorem dX6_bytes_7 : decode cX6_bytes 7 = .ok (.invokevirtual 179, 3) := by decide +kernel
theorem dX6_bytes_10 : decode cX6_bytes 10 = .ok (.ifCond .eq 10, 3) := by decide +kernel
theorem dX6_bytes_13 : decode cX6_bytes 13 = .ok (.iload_n 2, 1) := by decide +kernel
theorem dX6_bytes_14 : decode cX6_bytes 14 = .ok (.invokestatic 182, 3) := by decide +kernel
theorem dX6_bytes_17 : decode cX6_bytes 17 = .ok (.ifCond .ne 5, 3) := by decide +kernel
theorem dX6_bytes_20 : decode cX6_bytes 20 = .ok (.iconst (-1), 1) := by decide +kernel
theorem dX6_bytes_21 : decode cX6_bytes 21 = .ok (.ireturn, 1) := by decide +kernel
theorem dX6_bytes_22 : decode cX6_bytes 22 = .ok (.aload_n 0, 1) := by decide +kernel
theorem dX6_bytes_23 : decode cX6_bytes 23 = .ok (.iload_n 1, 1) := by decide +kernel
theorem dX6_bytes_24 : decode cX6_bytes 24 = .ok (.invokevirtual 176, 3) := by decide +kernel
theorem dX6_bytes_27 : decode cX6_bytes 27 = .ok (.aload_n 0, 1) := by decide +kernel
theorem dX6_bytes_28 : decode cX6_bytes 28 = .ok (.iload_n 2, 1) := by decide +kernel
theorem dX6_bytes_29 : decode cX6_bytes 29 = .ok (.invokevirtual 211, 3) := by decide +kernel
theorem dX6_bytes_32 : decode cX6_bytes 32 = .ok (.ifCond .ne 6, 3) := by decide +kernel
theorem dX6_bytes_35 : decode cX6_bytes 35 = .ok (.bipush (-2), 2) := by decide +kernel
theorem dX6_bytes_37 : decode cX6_bytes 37 = .ok (.ireturn, 1) := by decide +kernel
theorem dX6_bytes_38 : decode cX6_bytes 38 = .ok (.iload_n 3, 1) := by decide +kernel
theorem dX6_bytes_39 : decode cX6_bytes 39 = .ok (.iconst 0, 1) := by decide +kernel
theorem dX6_bytes_40 : decode cX6_bytes 40 = .ok (.aload_n 0, 1) := by decide +kernel
theorem dX6_bytes_41 : decode cX6_bytes 41 = .ok (.getfield 64, 3) := by decide +kernel
theorem dX6_bytes_44 : decode cX6_bytes 44 = .ok (.iload_n 2, 1) := by decide +kernel
theorem dX6_bytes_45 : decode cX6_bytes 45 = .ok (.iaload, 1) := by decide +kernel
theorem dX6_bytes_46 : decode cX6_bytes 46 = .ok (.iconst 1, 1) := by decide +kernel
theorem dX6_bytes_47 : decode cX6_bytes 47 = .ok (.isub, 1) := by decide +kernel
theorem dX6_bytes_48 : decode cX6_bytes 48 = .ok (.invokestatic 115, 3) := by decide +kernel
theorem dX6_bytes_51 : decode cX6_bytes 51 = .ok (.ifCond .ne 5, 3) := by decide +kernel
theorem dX6_bytes_54 : decode cX6_bytes 54 = .ok (.iconst (-1), 1) := by decide +kernel
theorem dX6_bytes_55 : decode cX6_bytes 55 = .ok (.ireturn, 1) := by decide +kernel
theorem dX6_bytes_56 : decode cX6_bytes 56 = .ok (.aload_n 0, 1) := by decide +kernel
theorem dX6_bytes_57 : decode cX6_bytes 57 = .ok (.getfield 67, 3) := by decide +kernel
theorem dX6_bytes_60 : decode cX6_bytes 60 = .ok (.bipush 16, 2) := by decide +kernel
theorem dX6_bytes_62 : decode cX6_bytes 62 = .ok (.iload_n 2, 1) := by decide +kernel
theorem dX6_bytes_63 : decode cX6_bytes 63 = .ok (.imul, 1) := by decide +kernel
theorem dX6_bytes_64 : decode cX6_bytes 64 = .ok (.iload_n 3, 1) := by decide +kernel
theorem dX6_bytes_65 : decode cX6_bytes 65 = .ok (.iadd, 1) := by decide +kernel
theorem dX6_bytes_66 : decode cX6_bytes 66 = .ok (.iaload, 1) := by decide +kernel
theorem dX6_bytes_67 : decode cX6_bytes 67 = .ok (.istore 5, 2) := by decide +kernel
theorem dX6_bytes_69 : decode cX6_bytes 69 = .ok (.iload 4, 2) := by decide +kernel
theorem dX6_bytes_71 : decode cX6_bytes 71 = .ok (.iconst (-1), 1) := by decide +kernel
theorem dX6_bytes_72 : decode cX6_bytes 72 = .ok (.aload_n 0, 1) := by decide +kernel
theorem dX6_bytes_73 : decode cX6_bytes 73 = .ok (.iload 5, 2) := by decide +kernel
theorem dX6_bytes_75 : decode cX6_bytes 75 = .ok (.invokevirtual 230, 3) := by decide +kernel
theorem dX6_bytes_78 : decode cX6_bytes 78 = .ok (.iconst 1, 1) := by decide +kernel
theorem dX6_bytes_79 : decode cX6_bytes 79 = .ok (.isub, 1) := by decide +kernel
theorem dX6_bytes_80 : decode cX6_bytes 80 = .ok (.invokestatic 115, 3) := by decide +kernel
theorem dX6_bytes_83 : decode cX6_bytes 83 = .ok (.ifCond .ne 5, 3) := by decide +kernel
theorem dX6_bytes_86 : decode cX6_bytes 86 = .ok (.iconst (-1), 1) := by decide +kernel
theorem dX6_bytes_87 : decode cX6_bytes 87 = .ok (.ireturn, 1) := by decide +kernel
theorem dX6_bytes_88 : decode cX6_bytes 88 = .ok (.iload 4, 2) := by decide +kernel
theorem dX6_bytes_90 : decode cX6_bytes 90 = .ok (.ifCond .ge 12, 3) := by decide +kernel
theorem dX6_bytes_93 : decode cX6_bytes 93 = .ok (.aload_n 0, 1) := by decide +kernel
theorem dX6_bytes_94 : decode cX6_bytes 94 = .ok (.iload 5, 2) := by decide +kernel
theorem dX6_bytes_96 : decode cX6_bytes 96 = .ok (.invokevirtual 230, 3) := by decide +kernel
theorem dX6_bytes_99 : decode cX6_bytes 99 = .ok (.goto 21, 3) := by decide +kernel
theorem dX6_bytes_102 : decode cX6_bytes 102 = .ok (.aload_n 0, 1) := by decide +kernel
theorem dX6_bytes_103 : decode cX6_bytes 103 = .ok (.getfield 20, 3) := by decide +kernel
theorem dX6_bytes_106 : decode cX6_bytes 106 = .ok (.iload 5, 2) := by decide +kernel
theorem dX6_bytes_108 : decode cX6_bytes 108 = .ok (.laload, 1) := by decide +kernel
theorem dX6_bytes_109 : decode cX6_bytes 109 = .ok (.aload_n 0, 1) := by decide +kernel
theorem dX6_bytes_110 : decode cX6_bytes 110 = .ok (.iload 5, 2) := by decide +kernel
theorem dX6_bytes_112 : decode cX6_bytes 112 = .ok (.invokevirtual 230, 3) := by decide +kernel
theorem dX6_bytes_115 : decode cX6_bytes 115 = .ok (.iload 4, 2) := by decide +kernel
theorem dX6_bytes_117 : decode cX6_bytes 117 = .ok (.invokestatic 194, 3) := by decide +kernel
theorem dX6_bytes_120 : decode cX6_bytes 120 = .ok (.ireturn, 1) := by decide +kernel
theorem dX6_held_0 : decode cX6_held 0 = .ok (.iconst 0, 1) := by decide +kernel
theorem dX6_held_1 : decode cX6_held 1 = .ok (.istore_n 2, 1) := by decide +kernel
theorem dX6_held_2 : decode cX6_held 2 = .ok (.iconst 0, 1) := by decide +kernel
theorem dX6_held_3 : decode cX6_held 3 = .ok (.istore_n 3, 1) := by decide +kernel
theorem dX6_held_4 : decode cX6_held 4 = .ok (.iload_n 3, 1) := by decide +kernel
theorem dX6_held_5 : decode cX6_held 5 = .ok (.aload_n 0, 1) := by decide +kernel
theorem dX6_held_6 : decode cX6_held 6 = .ok (.getfield 64, 3) := by decide +kernel
theorem dX6_held_9 : decode cX6_held 9 = .ok (.iload_n 1, 1) := by decide +kernel
theorem dX6_held_10 : decode cX6_held 10 = .ok (.iaload, 1) := by decide +kernel
theorem dX6_held_11 : decode cX6_held 11 = .ok (.if_icmp .ge 27, 3) := by decide +kernel
theorem dX6_held_14 : decode cX6_held 14 = .ok (.iload_n 2, 1) := by decide +kernel
theorem dX6_held_15 : decode cX6_held 15 = .ok (.aload_n 0, 1) := by decide +kernel
theorem dX6_held_16 : decode cX6_held 16 = .ok (.aload_n 0, 1) := by decide +kernel
theorem dX6_held_17 : decode cX6_held 17 = .ok (.getfield 67, 3) := by decide +kernel
theorem dX6_held_20 : decode cX6_held 20 = .ok (.bipush 16, 2) := by decide +kernel
theorem dX6_held_22 : decode cX6_held 22 = .ok (.iload_n 1, 1) := by decide +kernel
theorem dX6_held_23 : decode cX6_held 23 = .ok (.imul, 1) := by decide +kernel
theorem dX6_held_24 : decode cX6_held 24 = .ok (.iload_n 3, 1) := by decide +kernel
theorem dX6_held_25 : decode cX6_held 25 = .ok (.iadd, 1) := by decide +kernel
theorem dX6_held_26 : decode cX6_held 26 = .ok (.iaload, 1) := by decide +kernel
theorem dX6_held_27 : decode cX6_held 27 = .ok (.invokevirtual 230, 3) := by decide +kernel
theorem dX6_held_30 : decode cX6_held 30 = .ok (.iadd, 1) := by decide +kernel
theorem dX6_held_31 : decode cX6_held 31 = .ok (.istore_n 2, 1) := by decide +kernel
theorem dX6_held_32 : decode cX6_held 32 = .ok (.iinc 3 1, 3) := by decide +kernel
theorem dX6_held_35 : decode cX6_held 35 = .ok (.goto (-31), 3) := by decide +kernel
theorem dX6_held_38 : decode cX6_held 38 = .ok (.iload_n 2, 1) := by decide +kernel
theorem dX6_held_39 : decode cX6_held 39 = .ok (.ireturn, 1) := by decide +kernel
theorem dX6_inside_0 : decode cX6_inside 0 = .ok (.iconst 0, 1) := by decide +kernel
theorem dX6_inside_1 : decode cX6_inside 1 = .ok (.istore_n 2, 1) := by decide +kernel
theorem dX6_inside_2 : decode cX6_inside 2 = .ok (.iconst 1, 1) := by decide +kernel
theorem dX6_inside_3 : decode cX6_inside 3 = .ok (.istore_n 3, 1) := by decide +kernel
theorem dX6_inside_4 : decode cX6_inside 4 = .ok (.iload_n 3, 1) := by decide +kernel
theorem dX6_inside_5 : decode cX6_inside 5 = .ok (.bipush 12, 2) := by decide +kernel
theorem dX6_inside_7 : decode cX6_inside 7 = .ok (.if_icmp .ge 36, 3) := by decide +kernel
theorem dX6_inside_10 : decode cX6_inside 10 = .ok (.iload_n 2, 1) := by decide +kernel
theorem dX6_inside_11 : decode cX6_inside 11 = .ok (.aload_n 0, 1) := by decide +kernel
theorem dX6_inside_12 : decode cX6_inside 12 = .ok (.getfield 46, 3) := by decide +kernel
theorem dX6_inside_15 : decode cX6_inside 15 = .ok (.iload_n 3, 1) := by decide +kernel
theorem dX6_inside_16 : decode cX6_inside 16 = .ok (.baload, 1) := by decide +kernel
theorem dX6_inside_17 : decode cX6_inside 17 = .ok (.ifCond .eq 17, 3) := by decide +kernel
theorem dX6_inside_20 : decode cX6_inside 20 = .ok (.aload_n 0, 1) := by decide +kernel
theorem dX6_inside_21 : decode cX6_inside 21 = .ok (.getfield 52, 3) := by decide +kernel
theorem dX6_inside_24 : decode cX6_inside 24 = .ok (.iload_n 3, 1) := by decide +kernel
theorem dX6_inside_25 : decode cX6_inside 25 = .ok (.iaload, 1) := by decide +kernel
theorem dX6_inside_26 : decode cX6_inside 26 = .ok (.iload_n 1, 1) := by decide +kernel
theorem dX6_inside_27 : decode cX6_inside 27 = .ok (.if_icmp .ne 7, 3) := by decide +kernel
theorem dX6_inside_30 : decode cX6_inside 30 = .ok (.iconst 1, 1) := by decide +kernel
theorem dX6_inside_31 : decode cX6_inside 31 = .ok (.goto 4, 3) := by decide +kernel
theorem dX6_inside_34 : decode cX6_inside 34 = .ok (.iconst 0, 1) := by decide +kernel
theorem dX6_inside_35 : decode cX6_inside 35 = .ok (.iadd, 1) := by decide +kernel
theorem dX6_inside_36 : decode cX6_inside 36 = .ok (.istore_n 2, 1) := by decide +kernel
theorem dX6_inside_37 : decode cX6_inside 37 = .ok (.iinc 3 1, 3) := by decide +kernel
theorem dX6_inside_40 : decode cX6_inside 40 = .ok (.goto (-36), 3) := by decide +kernel
theorem dX6_inside_43 : decode cX6_inside 43 = .ok (.iload_n 2, 1) := by decide +kernel
theorem dX6_inside_44 : decode cX6_inside 44 = .ok (.ireturn, 1) := by decide +kernel
theorem dX6_bulk_0 : decode cX6_bulk 0 = .ok (.aload_n 0, 1) := by decide +kernel
theorem dX6_bulk_1 : decode cX6_bulk 1 = .ok (.iconst 0, 1) := by decide +kernel
theorem dX6_bulk_2 : decode cX6_bulk 2 = .ok (.putfield 106, 3) := by decide +kernel
theorem dX6_bulk_5 : decode cX6_bulk 5 = .ok (.iload_n 1, 1) := by decide +kernel
theorem dX6_bulk_6 : decode cX6_bulk 6 = .ok (.iconst 0, 1) := by decide +kernel
theorem dX6_bulk_7 : decode cX6_bulk 7 = .ok (.iconst 5, 1) := by decide +kernel
theorem dX6_bulk_8 : decode cX6_bulk 8 = .ok (.invokestatic 115, 3) := by decide +kernel
theorem dX6_bulk_11 : decode cX6_bulk 11 = .ok (.ifCond .eq 18, 3) := by decide +kernel
theorem dX6_bulk_14 : decode cX6_bulk 14 = .ok (.aload_n 0, 1) := by decide +kernel
theorem dX6_bulk_15 : decode cX6_bulk 15 = .ok (.iload_n 2, 1) := by decide +kernel
theorem dX6_bulk_16 : decode cX6_bulk 16 = .ok (.invokevirtual 179, 3) := by decide +kernel
theorem dX6_bulk_19 : decode cX6_bulk 19 = .ok (.ifCond .eq 10, 3) := by decide +kernel
theorem dX6_bulk_22 : decode cX6_bulk 22 = .ok (.iload_n 3, 1) := by decide +kernel
theorem dX6_bulk_23 : decode cX6_bulk 23 = .ok (.invokestatic 182, 3) := by decide +kernel
theorem dX6_bulk_26 : decode cX6_bulk 26 = .ok (.ifCond .ne 5, 3) := by decide +kernel
theorem dX6_bulk_29 : decode cX6_bulk 29 = .ok (.iconst (-1), 1) := by decide +kernel
theorem dX6_bulk_30 : decode cX6_bulk 30 = .ok (.ireturn, 1) := by decide +kernel
theorem dX6_bulk_31 : decode cX6_bulk 31 = .ok (.aload_n 0, 1) := by decide +kernel
theorem dX6_bulk_32 : decode cX6_bulk 32 = .ok (.iload_n 2, 1) := by decide +kernel
theorem dX6_bulk_33 : decode cX6_bulk 33 = .ok (.invokevirtual 176, 3) := by decide +kernel
theorem dX6_bulk_36 : decode cX6_bulk 36 = .ok (.aload_n 0, 1) := by decide +kernel
theorem dX6_bulk_37 : decode cX6_bulk 37 = .ok (.getfield 46, 3) := by decide +kernel
theorem dX6_bulk_40 : decode cX6_bulk 40 = .ok (.iload_n 3, 1) := by decide +kernel
theorem dX6_bulk_41 : decode cX6_bulk 41 = .ok (.baload, 1) := by decide +kernel
theorem dX6_bulk_42 : decode cX6_bulk 42 = .ok (.ifCond .ne 6, 3) := by decide +kernel
theorem dX6_bulk_45 : decode cX6_bulk 45 = .ok (.bipush (-2), 2) := by decide +kernel
theorem dX6_bulk_47 : decode cX6_bulk 47 = .ok (.ireturn, 1) := by decide +kernel
theorem dX6_bulk_48 : decode cX6_bulk 48 = .ok (.iconst 4, 1) := by decide +kernel
theorem dX6_bulk_49 : decode cX6_bulk 49 = .ok (.aload_n 0, 1) := by decide +kernel
theorem dX6_bulk_50 : decode cX6_bulk 50 = .ok (.getfield 61, 3) := by decide +kernel
theorem dX6_bulk_53 : decode cX6_bulk 53 = .ok (.iload_n 3, 1) := by decide +kernel
theorem dX6_bulk_54 : decode cX6_bulk 54 = .ok (.iaload, 1) := by decide +kernel
theorem dX6_bulk_55 : decode cX6_bulk 55 = .ok (.iadd, 1) := by decide +kernel
theorem dX6_bulk_56 : decode cX6_bulk 56 = .ok (.istore 4, 2) := by decide +kernel
theorem dX6_bulk_58 : decode cX6_bulk 58 = .ok (.iload 4, 2) := by decide +kernel
theorem dX6_bulk_60 : decode cX6_bulk 60 = .ok (.aload_n 0, 1) := by decide +kernel
theorem dX6_bulk_61 : decode cX6_bulk 61 = .ok (.iload_n 3, 1) := by decide +kernel
theorem dX6_bulk_62 : decode cX6_bulk 62 = .ok (.invokevirtual 233, 3) := by decide +kernel
theorem dX6_bulk_65 : decode cX6_bulk 65 = .ok (.iadd, 1) := by decide +kernel
theorem dX6_bulk_66 : decode cX6_bulk 66 = .ok (.istore 5, 2) := by decide +kernel
theorem dX6_bulk_68 : decode cX6_bulk 68 = .ok (.aload_n 0, 1) := by decide +kernel
theorem dX6_bulk_69 : decode cX6_bulk 69 = .ok (.dup, 1) := by decide +kernel
theorem dX6_bulk_70 : decode cX6_bulk 70 = .ok (.getfield 236, 3) := by decide +kernel
theorem dX6_bulk_73 : decode cX6_bulk 73 = .ok (.iload_n 1, 1) := by decide +kernel
theorem dX6_bulk_74 : decode cX6_bulk 74 = .ok (.ifCond .ne 7, 3) := by decide +kernel
theorem dX6_bulk_77 : decode cX6_bulk 77 = .ok (.lconst 1, 1) := by decide +kernel
theorem dX6_bulk_78 : decode cX6_bulk 78 = .ok (.goto 50, 3) := by decide +kernel
theorem dX6_bulk_81 : decode cX6_bulk 81 = .ok (.iload_n 1, 1) := by decide +kernel
theorem dX6_bulk_82 : decode cX6_bulk 82 = .ok (.iconst 1, 1) := by decide +kernel
theorem dX6_bulk_83 : decode cX6_bulk 83 = .ok (.if_icmp .ne 9, 3) := by decide +kernel
theorem dX6_bulk_86 : decode cX6_bulk 86 = .ok (.ldc2_w 240, 3) := by decide +kernel
theorem dX6_bulk_89 : decode cX6_bulk 89 = .ok (.goto 39, 3) := by decide +kernel
theorem dX6_bulk_92 : decode cX6_bulk 92 = .ok (.iload_n 1, 1) := by decide +kernel
theorem dX6_bulk_93 : decode cX6_bulk 93 = .ok (.iconst 2, 1) := by decide +kernel
theorem dX6_bulk_94 : decode cX6_bulk 94 = .ok (.if_icmp .ne 9, 3) := by decide +kernel
theorem dX6_bulk_97 : decode cX6_bulk 97 = .ok (.ldc2_w 242, 3) := by decide +kernel
theorem dX6_bulk_100 : decode cX6_bulk 100 = .ok (.goto 28, 3) := by decide +kernel
theorem dX6_bulk_103 : decode cX6_bulk 103 = .ok (.iload_n 1, 1) := by decide +kernel
theorem dX6_bulk_104 : decode cX6_bulk 104 = .ok (.iconst 3, 1) := by decide +kernel
theorem dX6_bulk_105 : decode cX6_bulk 105 = .ok (.if_icmp .ne 9, 3) := by decide +kernel
theorem dX6_bulk_108 : decode cX6_bulk 108 = .ok (.ldc2_w 244, 3) := by decide +kernel
theorem dX6_bulk_111 : decode cX6_bulk 111 = .ok (.goto 17, 3) := by decide +kernel
theorem dX6_bulk_114 : decode cX6_bulk 114 = .ok (.iload_n 1, 1) := by decide +kernel
theorem dX6_bulk_115 : decode cX6_bulk 115 = .ok (.iconst 4, 1) := by decide +kernel
theorem dX6_bulk_116 : decode cX6_bulk 116 = .ok (.if_icmp .ne 9, 3) := by decide +kernel
theorem dX6_bulk_119 : decode cX6_bulk 119 = .ok (.ldc2_w 246, 3) := by decide +kernel
theorem dX6_bulk_122 : decode cX6_bulk 122 = .ok (.goto 6, 3) := by decide +kernel
theorem dX6_bulk_125 : decode cX6_bulk 125 = .ok (.ldc2_w 248, 3) := by decide +kernel
theorem dX6_bulk_128 : decode cX6_bulk 128 = .ok (.ladd, 1) := by decide +kernel
theorem dX6_bulk_129 : decode cX6_bulk 129 = .ok (.putfield 236, 3) := by decide +kernel
theorem dX6_bulk_132 : decode cX6_bulk 132 = .ok (.iload_n 1, 1) := by decide +kernel
theorem dX6_bulk_133 : decode cX6_bulk 133 = .ok (.ifCond .ne 8, 3) := by decide +kernel
theorem dX6_bulk_136 : decode cX6_bulk 136 = .ok (.iload 4, 2) := by decide +kernel
theorem dX6_bulk_138 : decode cX6_bulk 138 = .ok (.goto 72, 3) := by decide +kernel
theorem dX6_bulk_141 : decode cX6_bulk 141 = .ok (.iload_n 1, 1) := by decide +kernel
theorem dX6_bulk_142 : decode cX6_bulk 142 = .ok (.iconst 1, 1) := by decide +kernel
theorem dX6_bulk_143 : decode cX6_bulk 143 = .ok (.if_icmp .ne 8, 3) := by decide +kernel
theorem dX6_bulk_146 : decode cX6_bulk 146 = .ok (.iload 5, 2) := by decide +kernel
theorem dX6_bulk_148 : decode cX6_bulk 148 = .ok (.goto 62, 3) := by decide +kernel
theorem dX6_bulk_151 : decode cX6_bulk 151 = .ok (.iload_n 1, 1) := by decide +kernel
theorem dX6_bulk_152 : decode cX6_bulk 152 = .ok (.iconst 2, 1) := by decide +kernel
theorem dX6_bulk_153 : decode cX6_bulk 153 = .ok (.if_icmp .ne 16, 3) := by decide +kernel
theorem dX6_bulk_156 : decode cX6_bulk 156 = .ok (.iload 4, 2) := by decide +kernel
theorem dX6_bulk_158 : decode cX6_bulk 158 = .ok (.iconst 3, 1) := by decide +kernel
theorem dX6_bulk_159 : decode cX6_bulk 159 = .ok (.aload_n 0, 1) := by decide +kernel
theorem dX6_bulk_160 : decode cX6_bulk 160 = .ok (.iload_n 3, 1) := by decide +kernel
theorem dX6_bulk_161 : decode cX6_bulk 161 = .ok (.invokevirtual 250, 3) := by decide +kernel
theorem dX6_bulk_164 : decode cX6_bulk 164 = .ok (.imul, 1) := by decide +kernel
theorem dX6_bulk_165 : decode cX6_bulk 165 = .ok (.iadd, 1) := by decide +kernel
theorem dX6_bulk_166 : decode cX6_bulk 166 = .ok (.goto 44, 3) := by decide +kernel
theorem dX6_bulk_169 : decode cX6_bulk 169 = .ok (.iload_n 1, 1) := by decide +kernel
theorem dX6_bulk_170 : decode cX6_bulk 170 = .ok (.iconst 3, 1) := by decide +kernel
theorem dX6_bulk_171 : decode cX6_bulk 171 = .ok (.if_icmp .ne 10, 3) := by decide +kernel
theorem dX6_bulk_174 : decode cX6_bulk 174 = .ok (.iload 4, 2) := by decide +kernel
theorem dX6_bulk_176 : decode cX6_bulk 176 = .ok (.iconst 2, 1) := by decide +kernel
theorem dX6_bulk_177 : decode cX6_bulk 177 = .ok (.idiv, 1) := by decide +kernel
theorem dX6_bulk_178 : decode cX6_bulk 178 = .ok (.goto 32, 3) := by decide +kernel
theorem dX6_bulk_181 : decode cX6_bulk 181 = .ok (.iload_n 1, 1) := by decide +kernel
theorem dX6_bulk_182 : decode cX6_bulk 182 = .ok (.iconst 4, 1) := by decide +kernel
theorem dX6_bulk_183 : decode cX6_bulk 183 = .ok (.if_icmp .ne 16, 3) := by decide +kernel
theorem dX6_bulk_186 : decode cX6_bulk 186 = .ok (.iload 5, 2) := by decide +kernel
theorem dX6_bulk_188 : decode cX6_bulk 188 = .ok (.aload_n 0, 1) := by decide +kernel
theorem dX6_bulk_189 : decode cX6_bulk 189 = .ok (.iload_n 3, 1) := by decide +kernel
theorem dX6_bulk_190 : decode cX6_bulk 190 = .ok (.invokevirtual 233, 3) := by decide +kernel
theorem dX6_bulk_193 : decode cX6_bulk 193 = .ok (.iconst 2, 1) := by decide +kernel
theorem dX6_bulk_194 : decode cX6_bulk 194 = .ok (.idiv, 1) := by decide +kernel
theorem dX6_bulk_195 : decode cX6_bulk 195 = .ok (.isub, 1) := by decide +kernel
theorem dX6_bulk_196 : decode cX6_bulk 196 = .ok (.goto 14, 3) := by decide +kernel
theorem dX6_bulk_199 : decode cX6_bulk 199 = .ok (.iload 5, 2) := by decide +kernel
theorem dX6_bulk_201 : decode cX6_bulk 201 = .ok (.iconst 5, 1) := by decide +kernel
theorem dX6_bulk_202 : decode cX6_bulk 202 = .ok (.aload_n 0, 1) := by decide +kernel
theorem dX6_bulk_203 : decode cX6_bulk 203 = .ok (.getfield 64, 3) := by decide +kernel
theorem dX6_bulk_206 : decode cX6_bulk 206 = .ok (.iload_n 3, 1) := by decide +kernel
theorem dX6_bulk_207 : decode cX6_bulk 207 = .ok (.iaload, 1) := by decide +kernel
theorem dX6_bulk_208 : decode cX6_bulk 208 = .ok (.imul, 1) := by decide +kernel
theorem dX6_bulk_209 : decode cX6_bulk 209 = .ok (.iadd, 1) := by decide +kernel
theorem dX6_bulk_210 : decode cX6_bulk 210 = .ok (.ireturn, 1) := by decide +kernel
theorem dX6_things_0 : decode cX6_things 0 = .ok (.aload_n 0, 1) := by decide +kernel
theorem dX6_things_1 : decode cX6_things 1 = .ok (.iconst 0, 1) := by decide +kernel
theorem dX6_things_2 : decode cX6_things 2 = .ok (.putfield 106, 3) := by decide +kernel
theorem dX6_things_5 : decode cX6_things 5 = .ok (.aload_n 0, 1) := by decide +kernel
theorem dX6_things_6 : decode cX6_things 6 = .ok (.iload_n 1, 1) := by decide +kernel
theorem dX6_things_7 : decode cX6_things 7 = .ok (.invokevirtual 179, 3) := by decide +kernel
theorem dX6_things_10 : decode cX6_things 10 = .ok (.ifCond .eq 11, 3) := by decide +kernel
theorem dX6_things_13 : decode cX6_things 13 = .ok (.aload_n 0, 1) := by decide +kernel
theorem dX6_things_14 : decode cX6_things 14 = .ok (.iload_n 2, 1) := by decide +kernel
theorem dX6_things_15 : decode cX6_things 15 = .ok (.invokevirtual 224, 3) := by decide +kernel
theorem dX6_things_18 : decode cX6_things 18 = .ok (.ifCond .ne 5, 3) := by decide +kernel
theorem dX6_things_21 : decode cX6_things 21 = .ok (.iconst (-1), 1) := by decide +kernel
theorem dX6_things_22 : decode cX6_things 22 = .ok (.ireturn, 1) := by decide +kernel
theorem dX6_things_23 : decode cX6_things 23 = .ok (.aload_n 0, 1) := by decide +kernel
theorem dX6_things_24 : decode cX6_things 24 = .ok (.iload_n 1, 1) := by decide +kernel
theorem dX6_things_25 : decode cX6_things 25 = .ok (.iload_n 2, 1) := by decide +kernel
theorem dX6_things_26 : decode cX6_things 26 = .ok (.invokevirtual 227, 3) := by decide +kernel
theorem dX6_things_29 : decode cX6_things 29 = .ok (.iconst 0, 1) := by decide +kernel
theorem dX6_things_30 : decode cX6_things 30 = .ok (.istore_n 3, 1) := by decide +kernel
theorem dX6_things_31 : decode cX6_things 31 = .ok (.iconst 0, 1) := by decide +kernel
theorem dX6_things_32 : decode cX6_things 32 = .ok (.istore 4, 2) := by decide +kernel
theorem dX6_things_34 : decode cX6_things 34 = .ok (.iload 4, 2) := by decide +kernel
theorem dX6_things_36 : decode cX6_things 36 = .ok (.bipush 12, 2) := by decide +kernel
theorem dX6_things_38 : decode cX6_things 38 = .ok (.if_icmp .ge 27, 3) := by decide +kernel
theorem dX6_things_41 : decode cX6_things 41 = .ok (.iload_n 3, 1) := by decide +kernel
theorem dX6_things_42 : decode cX6_things 42 = .ok (.aload_n 0, 1) := by decide +kernel
theorem dX6_things_43 : decode cX6_things 43 = .ok (.getfield 46, 3) := by decide +kernel
theorem dX6_things_46 : decode cX6_things 46 = .ok (.iload 4, 2) := by decide +kernel
theorem dX6_things_48 : decode cX6_things 48 = .ok (.baload, 1) := by decide +kernel
theorem dX6_things_49 : decode cX6_things 49 = .ok (.ifCond .eq 7, 3) := by decide +kernel
theorem dX6_things_52 : decode cX6_things 52 = .ok (.iconst 1, 1) := by decide +kernel
theorem dX6_things_53 : decode cX6_things 53 = .ok (.goto 4, 3) := by decide +kernel
theorem dX6_things_56 : decode cX6_things 56 = .ok (.iconst 0, 1) := by decide +kernel
theorem dX6_things_57 : decode cX6_things 57 = .ok (.iadd, 1) := by decide +kernel
theorem dX6_things_58 : decode cX6_things 58 = .ok (.istore_n 3, 1) := by decide +kernel
theorem dX6_things_59 : decode cX6_things 59 = .ok (.iinc 4 1, 3) := by decide +kernel
theorem dX6_things_62 : decode cX6_things 62 = .ok (.goto (-28), 3) := by decide +kernel
theorem dX6_things_65 : decode cX6_things 65 = .ok (.iload_n 3, 1) := by decide +kernel
theorem dX6_things_66 : decode cX6_things 66 = .ok (.ireturn, 1) := by decide +kernel
theorem dX6_find_0 : decode cX6_find 0 = .ok (.aload_n 0, 1) := by decide +kernel
theorem dX6_find_1 : decode cX6_find 1 = .ok (.iconst 0, 1) := by decide +kernel
theorem dX6_find_2 : decode cX6_find 2 = .ok (.putfield 106, 3) := by decide +kernel
theorem dX6_find_5 : decode cX6_find 5 = .ok (.aload_n 0, 1) := by decide +kernel
theorem dX6_find_6 : decode cX6_find 6 = .ok (.iload_n 1, 1) := by decide +kernel
theorem dX6_find_7 : decode cX6_find 7 = .ok (.invokevirtual 179, 3) := by decide +kernel
theorem dX6_find_10 : decode cX6_find 10 = .ok (.ifCond .eq 20, 3) := by decide +kernel
theorem dX6_find_13 : decode cX6_find 13 = .ok (.iload_n 2, 1) := by decide +kernel
theorem dX6_find_14 : decode cX6_find 14 = .ok (.invokestatic 182, 3) := by decide +kernel
theorem dX6_find_17 : decode cX6_find 17 = .ok (.ifCond .eq 13, 3) := by decide +kernel
theorem dX6_find_20 : decode cX6_find 20 = .ok (.iload_n 3, 1) := by decide +kernel
theorem dX6_find_21 : decode cX6_find 21 = .ok (.iconst 0, 1) := by decide +kernel
theorem dX6_find_22 : decode cX6_find 22 = .ok (.bipush 22, 2) := by decide +kernel
theorem dX6_find_24 : decode cX6_find 24 = .ok (.invokestatic 115, 3) := by decide +kernel
theorem dX6_find_27 : decode cX6_find 27 = .ok (.ifCond .ne 5, 3) := by decide +kernel
theorem dX6_find_30 : decode cX6_find 30 = .ok (.iconst (-1), 1) := by decide +kernel
theorem dX6_find_31 : decode cX6_find 31 = .ok (.ireturn, 1) := by decide +kernel
theorem dX6_find_32 : decode cX6_find 32 = .ok (.aload_n 0, 1) := by decide +kernel
theorem dX6_find_33 : decode cX6_find 33 = .ok (.iload_n 1, 1) := by decide +kernel
theorem dX6_find_34 : decode cX6_find 34 = .ok (.invokevirtual 176, 3) := by decide +kernel
theorem dX6_find_37 : decode cX6_find 37 = .ok (.aload_n 0, 1) := by decide +kernel
theorem dX6_find_38 : decode cX6_find 38 = .ok (.iload_n 2, 1) := by decide +kernel
theorem dX6_find_39 : decode cX6_find 39 = .ok (.invokevirtual 137, 3) := by decide +kernel
theorem dX6_find_42 : decode cX6_find 42 = .ok (.ifCond .ne 6, 3) := by decide +kernel
theorem dX6_find_45 : decode cX6_find 45 = .ok (.bipush (-2), 2) := by decide +kernel
theorem dX6_find_47 : decode cX6_find 47 = .ok (.ireturn, 1) := by decide +kernel
theorem dX6_find_48 : decode cX6_find 48 = .ok (.bipush (-9), 2) := by decide +kernel
theorem dX6_find_50 : decode cX6_find 50 = .ok (.istore 4, 2) := by decide +kernel
theorem dX6_find_52 : decode cX6_find 52 = .ok (.iconst 1, 1) := by decide +kernel
theorem dX6_find_53 : decode cX6_find 53 = .ok (.istore 5, 2) := by decide +kernel
theorem dX6_find_55 : decode cX6_find 55 = .ok (.iload 5, 2) := by decide +kernel
theorem dX6_find_57 : decode cX6_find 57 = .ok (.bipush 12, 2) := by decide +kernel
theorem dX6_find_59 : decode cX6_find 59 = .ok (.if_icmp .ge 50, 3) := by decide +kernel
theorem dX6_find_62 : decode cX6_find 62 = .ok (.aload_n 0, 1) := by decide +kernel
theorem dX6_find_63 : decode cX6_find 63 = .ok (.getfield 46, 3) := by decide +kernel
theorem dX6_find_66 : decode cX6_find 66 = .ok (.iload 5, 2) := by decide +kernel
theorem dX6_find_68 : decode cX6_find 68 = .ok (.baload, 1) := by decide +kernel
theorem dX6_find_69 : decode cX6_find 69 = .ok (.ifCond .eq 30, 3) := by decide +kernel
theorem dX6_find_72 : decode cX6_find 72 = .ok (.aload_n 0, 1) := by decide +kernel
theorem dX6_find_73 : decode cX6_find 73 = .ok (.getfield 52, 3) := by decide +kernel
theorem dX6_find_76 : decode cX6_find 76 = .ok (.iload 5, 2) := by decide +kernel
theorem dX6_find_78 : decode cX6_find 78 = .ok (.iaload, 1) := by decide +kernel
theorem dX6_find_79 : decode cX6_find 79 = .ok (.iload_n 2, 1) := by decide +kernel
theorem dX6_find_80 : decode cX6_find 80 = .ok (.if_icmp .ne 19, 3) := by decide +kernel
theorem dX6_find_83 : decode cX6_find 83 = .ok (.aload_n 0, 1) := by decide +kernel
theorem dX6_find_84 : decode cX6_find 84 = .ok (.getfield 61, 3) := by decide +kernel
theorem dX6_find_87 : decode cX6_find 87 = .ok (.iload 5, 2) := by decide +kernel
theorem dX6_find_89 : decode cX6_find 89 = .ok (.iaload, 1) := by decide +kernel
theorem dX6_find_90 : decode cX6_find 90 = .ok (.iload_n 3, 1) := by decide +kernel
theorem dX6_find_91 : decode cX6_find 91 = .ok (.if_icmp .ne 8, 3) := by decide +kernel
theorem dX6_find_94 : decode cX6_find 94 = .ok (.iload 5, 2) := by decide +kernel
theorem dX6_find_96 : decode cX6_find 96 = .ok (.goto 5, 3) := by decide +kernel
theorem dX6_find_99 : decode cX6_find 99 = .ok (.iload 4, 2) := by decide +kernel
theorem dX6_find_101 : decode cX6_find 101 = .ok (.istore 4, 2) := by decide +kernel
theorem dX6_find_103 : decode cX6_find 103 = .ok (.iinc 5 1, 3) := by decide +kernel
theorem dX6_find_106 : decode cX6_find 106 = .ok (.goto (-51), 3) := by decide +kernel
theorem dX6_find_109 : decode cX6_find 109 = .ok (.iload 4, 2) := by decide +kernel
theorem dX6_find_111 : decode cX6_find 111 = .ok (.ireturn, 1) := by decide +kernel
theorem dX6_sum_0 : decode cX6_sum 0 = .ok (.aload_n 0, 1) := by decide +kernel
theorem dX6_sum_1 : decode cX6_sum 1 = .ok (.iconst 0, 1) := by decide +kernel
theorem dX6_sum_2 : decode cX6_sum 2 = .ok (.putfield 106, 3) := by decide +kernel
theorem dX6_sum_5 : decode cX6_sum 5 = .ok (.aload_n 0, 1) := by decide +kernel
theorem dX6_sum_6 : decode cX6_sum 6 = .ok (.iload_n 1, 1) := by decide +kernel
theorem dX6_sum_7 : decode cX6_sum 7 = .ok (.invokevirtual 179, 3) := by decide +kernel
theorem dX6_sum_10 : decode cX6_sum 10 = .ok (.ifCond .eq 11, 3) := by decide +kernel
theorem dX6_sum_13 : decode cX6_sum 13 = .ok (.aload_n 0, 1) := by decide +kernel
theorem dX6_sum_14 : decode cX6_sum 14 = .ok (.iload_n 2, 1) := by decide +kernel
theorem dX6_sum_15 : decode cX6_sum 15 = .ok (.invokevirtual 224, 3) := by decide +kernel
theorem dX6_sum_18 : decode cX6_sum 18 = .ok (.ifCond .ne 5, 3) := by decide +kernel
theorem dX6_sum_21 : decode cX6_sum 21 = .ok (.iconst (-1), 1) := by decide +kernel
theorem dX6_sum_22 : decode cX6_sum 22 = .ok (.ireturn, 1) := by decide +kernel
theorem dX6_sum_23 : decode cX6_sum 23 = .ok (.aload_n 0, 1) := by decide +kernel
theorem dX6_sum_24 : decode cX6_sum 24 = .ok (.iload_n 1, 1) := by decide +kernel
theorem dX6_sum_25 : decode cX6_sum 25 = .ok (.iload_n 2, 1) := by decide +kernel
theorem dX6_sum_26 : decode cX6_sum 26 = .ok (.invokevirtual 227, 3) := by decide +kernel
theorem dX6_sum_29 : decode cX6_sum 29 = .ok (.lconst 0, 1) := by decide +kernel
theorem dX6_sum_30 : decode cX6_sum 30 = .ok (.lstore_n 3, 1) := by decide +kernel
theorem dX6_sum_31 : decode cX6_sum 31 = .ok (.iconst 0, 1) := by decide +kernel
theorem dX6_sum_32 : decode cX6_sum 32 = .ok (.istore 5, 2) := by decide +kernel
theorem dX6_sum_34 : decode cX6_sum 34 = .ok (.iload 5, 2) := by decide +kernel
theorem dX6_sum_36 : decode cX6_sum 36 = .ok (.bipush 12, 2) := by decide +kernel
theorem dX6_sum_38 : decode cX6_sum 38 = .ok (.if_icmp .ge 137, 3) := by decide +kernel
theorem dX6_sum_41 : decode cX6_sum 41 = .ok (.aload_n 0, 1) := by decide +kernel
theorem dX6_sum_42 : decode cX6_sum 42 = .ok (.getfield 46, 3) := by decide +kernel
theorem dX6_sum_45 : decode cX6_sum 45 = .ok (.iload 5, 2) := by decide +kernel
theorem dX6_sum_47 : decode cX6_sum 47 = .ok (.baload, 1) := by decide +kernel
theorem dX6_sum_48 : decode cX6_sum 48 = .ok (.ifCond .eq 121, 3) := by decide +kernel
theorem dX6_sum_51 : decode cX6_sum 51 = .ok (.ldc2_w 253, 3) := by decide +kernel
theorem dX6_sum_54 : decode cX6_sum 54 = .ok (.aload_n 0, 1) := by decide +kernel
theorem dX6_sum_55 : decode cX6_sum 55 = .ok (.getfield 52, 3) := by decide +kernel
theorem dX6_sum_58 : decode cX6_sum 58 = .ok (.iload 5, 2) := by decide +kernel
theorem dX6_sum_60 : decode cX6_sum 60 = .ok (.iaload, 1) := by decide +kernel
theorem dX6_sum_61 : decode cX6_sum 61 = .ok (.i2l, 1) := by decide +kernel
theorem dX6_sum_62 : decode cX6_sum 62 = .ok (.lmul, 1) := by decide +kernel
theorem dX6_sum_63 : decode cX6_sum 63 = .ok (.ldc2_w 255, 3) := by decide +kernel
theorem dX6_sum_66 : decode cX6_sum 66 = .ok (.aload_n 0, 1) := by decide +kernel
theorem dX6_sum_67 : decode cX6_sum 67 = .ok (.getfield 61, 3) := by decide +kernel
theorem dX6_sum_70 : decode cX6_sum 70 = .ok (.iload 5, 2) := by decide +kernel
theorem dX6_sum_72 : decode cX6_sum 72 = .ok (.iaload, 1) := by decide +kernel
theorem dX6_sum_73 : decode cX6_sum 73 = .ok (.i2l, 1) := by decide +kernel
theorem dX6_sum_74 : decode cX6_sum 74 = .ok (.lmul, 1) := by decide +kernel
theorem dX6_sum_75 : decode cX6_sum 75 = .ok (.ladd, 1) := by decide +kernel
theorem dX6_sum_76 : decode cX6_sum 76 = .ok (.lstore 6, 2) := by decide +kernel
theorem dX6_sum_78 : decode cX6_sum 78 = .ok (.iconst 0, 1) := by decide +kernel
theorem dX6_sum_79 : decode cX6_sum 79 = .ok (.istore 8, 2) := by decide +kernel
theorem dX6_sum_81 : decode cX6_sum 81 = .ok (.iload 8, 2) := by decide +kernel
theorem dX6_sum_83 : decode cX6_sum 83 = .ok (.aload_n 0, 1) := by decide +kernel
theorem dX6_sum_84 : decode cX6_sum 84 = .ok (.getfield 64, 3) := by decide +kernel
theorem dX6_sum_87 : decode cX6_sum 87 = .ok (.iload 5, 2) := by decide +kernel
theorem dX6_sum_89 : decode cX6_sum 89 = .ok (.iaload, 1) := by decide +kernel
theorem dX6_sum_90 : decode cX6_sum 90 = .ok (.if_icmp .ge 68, 3) := by decide +kernel
theorem dX6_sum_93 : decode cX6_sum 93 = .ok (.aload_n 0, 1) := by decide +kernel
theorem dX6_sum_94 : decode cX6_sum 94 = .ok (.getfield 67, 3) := by decide +kernel
theorem dX6_sum_97 : decode cX6_sum 97 = .ok (.bipush 16, 2) := by decide +kernel
theorem dX6_sum_99 : decode cX6_sum 99 = .ok (.iload 5, 2) := by decide +kernel
theorem dX6_sum_101 : decode cX6_sum 101 = .ok (.imul, 1) := by decide +kernel
theorem dX6_sum_102 : decode cX6_sum 102 = .ok (.iload 8, 2) := by decide +kernel
theorem dX6_sum_104 : decode cX6_sum 104 = .ok (.iadd, 1) := by decide +kernel
theorem dX6_sum_105 : decode cX6_sum 105 = .ok (.iaload, 1) := by decide +kernel
theorem dX6_sum_106 : decode cX6_sum 106 = .ok (.istore 9, 2) := by decide +kernel
theorem dX6_sum_108 : decode cX6_sum 108 = .ok (.iconst 0, 1) := by decide +kernel
theorem dX6_sum_109 : decode cX6_sum 109 = .ok (.istore 10, 2) := by decide +kernel
theorem dX6_sum_111 : decode cX6_sum 111 = .ok (.iload 10, 2) := by decide +kernel
theorem dX6_sum_113 : decode cX6_sum 113 = .ok (.aload_n 0, 1) := by decide +kernel
theorem dX6_sum_114 : decode cX6_sum 114 = .ok (.iload 9, 2) := by decide +kernel
theorem dX6_sum_116 : decode cX6_sum 116 = .ok (.invokevirtual 230, 3) := by decide +kernel
theorem dX6_sum_119 : decode cX6_sum 119 = .ok (.if_icmp .ge 33, 3) := by decide +kernel
theorem dX6_sum_122 : decode cX6_sum 122 = .ok (.lload 6, 2) := by decide +kernel
theorem dX6_sum_124 : decode cX6_sum 124 = .ok (.aload_n 0, 1) := by decide +kernel
theorem dX6_sum_125 : decode cX6_sum 125 = .ok (.getfield 20, 3) := by decide +kernel
theorem dX6_sum_128 : decode cX6_sum 128 = .ok (.iload 9, 2) := by decide +kernel
theorem dX6_sum_130 : decode cX6_sum 130 = .ok (.laload, 1) := by decide +kernel
theorem dX6_sum_131 : decode cX6_sum 131 = .ok (.aload_n 0, 1) := by decide +kernel
theorem dX6_sum_132 : decode cX6_sum 132 = .ok (.iload 9, 2) := by decide +kernel
theorem dX6_sum_134 : decode cX6_sum 134 = .ok (.invokevirtual 230, 3) := by decide +kernel
theorem dX6_sum_137 : decode cX6_sum 137 = .ok (.iload 10, 2) := by decide +kernel
theorem dX6_sum_139 : decode cX6_sum 139 = .ok (.invokestatic 194, 3) := by decide +kernel
theorem dX6_sum_142 : decode cX6_sum 142 = .ok (.i2l, 1) := by decide +kernel
theorem dX6_sum_143 : decode cX6_sum 143 = .ok (.ladd, 1) := by decide +kernel
theorem dX6_sum_144 : decode cX6_sum 144 = .ok (.lstore 6, 2) := by decide +kernel
theorem dX6_sum_146 : decode cX6_sum 146 = .ok (.iinc 10 1, 3) := by decide +kernel
theorem dX6_sum_149 : decode cX6_sum 149 = .ok (.goto (-38), 3) := by decide +kernel
theorem dX6_sum_152 : decode cX6_sum 152 = .ok (.iinc 8 1, 3) := by decide +kernel
theorem dX6_sum_155 : decode cX6_sum 155 = .ok (.goto (-74), 3) := by decide +kernel
theorem dX6_sum_158 : decode cX6_sum 158 = .ok (.lload_n 3, 1) := by decide +kernel
theorem dX6_sum_159 : decode cX6_sum 159 = .ok (.lconst 1, 1) := by decide +kernel
theorem dX6_sum_160 : decode cX6_sum 160 = .ok (.iload 5, 2) := by decide +kernel
theorem dX6_sum_162 : decode cX6_sum 162 = .ok (.i2l, 1) := by decide +kernel
theorem dX6_sum_163 : decode cX6_sum 163 = .ok (.lload 6, 2) := by decide +kernel
theorem dX6_sum_165 : decode cX6_sum 165 = .ok (.lmul, 1) := by decide +kernel
theorem dX6_sum_166 : decode cX6_sum 166 = .ok (.ladd, 1) := by decide +kernel
theorem dX6_sum_167 : decode cX6_sum 167 = .ok (.ladd, 1) := by decide +kernel
theorem dX6_sum_168 : decode cX6_sum 168 = .ok (.lstore_n 3, 1) := by decide +kernel
theorem dX6_sum_169 : decode cX6_sum 169 = .ok (.iinc 5 1, 3) := by decide +kernel
theorem dX6_sum_172 : decode cX6_sum 172 = .ok (.goto (-138), 3) := by decide +kernel
theorem dX6_sum_175 : decode cX6_sum 175 = .ok (.lload_n 3, 1) := by decide +kernel
theorem dX6_sum_176 : decode cX6_sum 176 = .ok (.ldc2_w 257, 3) := by decide +kernel
theorem dX6_sum_179 : decode cX6_sum 179 = .ok (.lrem, 1) := by decide +kernel
theorem dX6_sum_180 : decode cX6_sum 180 = .ok (.l2i, 1) := by decide +kernel
theorem dX6_sum_181 : decode cX6_sum 181 = .ok (.ireturn, 1) := by decide +kernel
theorem dX6_differ_0 : decode cX6_differ 0 = .ok (.aload_n 0, 1) := by decide +kernel
theorem dX6_differ_1 : decode cX6_differ 1 = .ok (.iconst 0, 1) := by decide +kernel
theorem dX6_differ_2 : decode cX6_differ 2 = .ok (.putfield 106, 3) := by decide +kernel
theorem dX6_differ_5 : decode cX6_differ 5 = .ok (.aload_n 0, 1) := by decide +kernel
theorem dX6_differ_6 : decode cX6_differ 6 = .ok (.iload_n 1, 1) := by decide +kernel
theorem dX6_differ_7 : decode cX6_differ 7 = .ok (.invokevirtual 179, 3) := by decide +kernel
theorem dX6_differ_10 : decode cX6_differ 10 = .ok (.ifCond .eq 11, 3) := by decide +kernel
theorem dX6_differ_13 : decode cX6_differ 13 = .ok (.aload_n 0, 1) := by decide +kernel
theorem dX6_differ_14 : decode cX6_differ 14 = .ok (.iload_n 2, 1) := by decide +kernel
theorem dX6_differ_15 : decode cX6_differ 15 = .ok (.invokevirtual 179, 3) := by decide +kernel
theorem dX6_differ_18 : decode cX6_differ 18 = .ok (.ifCond .ne 5, 3) := by decide +kernel
theorem dX6_differ_21 : decode cX6_differ 21 = .ok (.iconst (-1), 1) := by decide +kernel
theorem dX6_differ_22 : decode cX6_differ 22 = .ok (.ireturn, 1) := by decide +kernel
theorem dX6_differ_23 : decode cX6_differ 23 = .ok (.iconst 0, 1) := by decide +kernel
theorem dX6_differ_24 : decode cX6_differ 24 = .ok (.istore_n 3, 1) := by decide +kernel
theorem dX6_differ_25 : decode cX6_differ 25 = .ok (.iconst 0, 1) := by decide +kernel
theorem dX6_differ_26 : decode cX6_differ 26 = .ok (.istore 4, 2) := by decide +kernel
theorem dX6_differ_28 : decode cX6_differ 28 = .ok (.iload 4, 2) := by decide +kernel
theorem dX6_differ_30 : decode cX6_differ 30 = .ok (.aload_n 0, 1) := by decide +kernel
theorem dX6_differ_31 : decode cX6_differ 31 = .ok (.getfield 7, 3) := by decide +kernel
theorem dX6_differ_34 : decode cX6_differ 34 = .ok (.if_icmp .ge 50, 3) := by decide +kernel
theorem dX6_differ_37 : decode cX6_differ 37 = .ok (.aload_n 0, 1) := by decide +kernel
theorem dX6_differ_38 : decode cX6_differ 38 = .ok (.getfield 24, 3) := by decide +kernel
theorem dX6_differ_41 : decode cX6_differ 41 = .ok (.iconst 4, 1) := by decide +kernel
theorem dX6_differ_42 : decode cX6_differ 42 = .ok (.iload_n 1, 1) := by decide +kernel
theorem dX6_differ_43 : decode cX6_differ 43 = .ok (.imul, 1) := by decide +kernel
theorem dX6_differ_44 : decode cX6_differ 44 = .ok (.iload 4, 2) := by decide +kernel
theorem dX6_differ_46 : decode cX6_differ 46 = .ok (.iadd, 1) := by decide +kernel
theorem dX6_differ_47 : decode cX6_differ 47 = .ok (.iaload, 1) := by decide +kernel
theorem dX6_differ_48 : decode cX6_differ 48 = .ok (.aload_n 0, 1) := by decide +kernel
theorem dX6_differ_49 : decode cX6_differ 49 = .ok (.getfield 24, 3) := by decide +kernel
theorem dX6_differ_52 : decode cX6_differ 52 = .ok (.iconst 4, 1) := by decide +kernel
theorem dX6_differ_53 : decode cX6_differ 53 = .ok (.iload_n 2, 1) := by decide +kernel
theorem dX6_differ_54 : decode cX6_differ 54 = .ok (.imul, 1) := by decide +kernel
theorem dX6_differ_55 : decode cX6_differ 55 = .ok (.iload 4, 2) := by decide +kernel
theorem dX6_differ_57 : decode cX6_differ 57 = .ok (.iadd, 1) := by decide +kernel
theorem dX6_differ_58 : decode cX6_differ 58 = .ok (.iaload, 1) := by decide +kernel
theorem dX6_differ_59 : decode cX6_differ 59 = .ok (.isub, 1) := by decide +kernel
theorem dX6_differ_60 : decode cX6_differ 60 = .ok (.istore 5, 2) := by decide +kernel
theorem dX6_differ_62 : decode cX6_differ 62 = .ok (.iload_n 3, 1) := by decide +kernel
theorem dX6_differ_63 : decode cX6_differ 63 = .ok (.iload 5, 2) := by decide +kernel
theorem dX6_differ_65 : decode cX6_differ 65 = .ok (.ifCond .ge 9, 3) := by decide +kernel
theorem dX6_differ_68 : decode cX6_differ 68 = .ok (.iload 5, 2) := by decide +kernel
theorem dX6_differ_70 : decode cX6_differ 70 = .ok (.ineg, 1) := by decide +kernel
theorem dX6_differ_71 : decode cX6_differ 71 = .ok (.goto 5, 3) := by decide +kernel
theorem dX6_differ_74 : decode cX6_differ 74 = .ok (.iload 5, 2) := by decide +kernel
theorem dX6_differ_76 : decode cX6_differ 76 = .ok (.iadd, 1) := by decide +kernel
theorem dX6_differ_77 : decode cX6_differ 77 = .ok (.istore_n 3, 1) := by decide +kernel
theorem dX6_differ_78 : decode cX6_differ 78 = .ok (.iinc 4 1, 3) := by decide +kernel
theorem dX6_differ_81 : decode cX6_differ 81 = .ok (.goto (-53), 3) := by decide +kernel
theorem dX6_differ_84 : decode cX6_differ 84 = .ok (.iload_n 3, 1) := by decide +kernel
theorem dX6_differ_85 : decode cX6_differ 85 = .ok (.ireturn, 1) := by decide +kernel
theorem dX6_apart_0 : decode cX6_apart 0 = .ok (.aload_n 0, 1) := by decide +kernel
theorem dX6_apart_1 : decode cX6_apart 1 = .ok (.iconst 0, 1) := by decide +kernel
theorem dX6_apart_2 : decode cX6_apart 2 = .ok (.putfield 106, 3) := by decide +kernel
theorem dX6_apart_5 : decode cX6_apart 5 = .ok (.aload_n 0, 1) := by decide +kernel
theorem dX6_apart_6 : decode cX6_apart 6 = .ok (.iload_n 1, 1) := by decide +kernel
theorem dX6_apart_7 : decode cX6_apart 7 = .ok (.invokevirtual 179, 3) := by decide +kernel
theorem dX6_apart_10 : decode cX6_apart 10 = .ok (.ifCond .eq 13, 3) := by decide +kernel
theorem dX6_apart_13 : decode cX6_apart 13 = .ok (.iload_n 2, 1) := by decide +kernel
theorem dX6_apart_14 : decode cX6_apart 14 = .ok (.iconst 0, 1) := by decide +kernel
theorem dX6_apart_15 : decode cX6_apart 15 = .ok (.bipush 20, 2) := by decide +kernel
theorem dX6_apart_17 : decode cX6_apart 17 = .ok (.invokestatic 115, 3) := by decide +kernel
theorem dX6_apart_20 : decode cX6_apart 20 = .ok (.ifCond .ne 5, 3) := by decide +kernel
theorem dX6_apart_23 : decode cX6_apart 23 = .ok (.iconst (-1), 1) := by decide +kernel
theorem dX6_apart_24 : decode cX6_apart 24 = .ok (.ireturn, 1) := by decide +kernel
theorem dX6_apart_25 : decode cX6_apart 25 = .ok (.aload_n 0, 1) := by decide +kernel
theorem dX6_apart_26 : decode cX6_apart 26 = .ok (.getfield 30, 3) := by decide +kernel
theorem dX6_apart_29 : decode cX6_apart 29 = .ok (.iload_n 1, 1) := by decide +kernel
theorem dX6_apart_30 : decode cX6_apart 30 = .ok (.iaload, 1) := by decide +kernel
theorem dX6_apart_31 : decode cX6_apart 31 = .ok (.istore_n 3, 1) := by decide +kernel
theorem dX6_apart_32 : decode cX6_apart 32 = .ok (.aload_n 0, 1) := by decide +kernel
theorem dX6_apart_33 : decode cX6_apart 33 = .ok (.getfield 30, 3) := by decide +kernel
theorem dX6_apart_36 : decode cX6_apart 36 = .ok (.iload_n 1, 1) := by decide +kernel
theorem dX6_apart_37 : decode cX6_apart 37 = .ok (.iload_n 2, 1) := by decide +kernel
theorem dX6_apart_38 : decode cX6_apart 38 = .ok (.iastore, 1) := by decide +kernel
theorem dX6_apart_39 : decode cX6_apart 39 = .ok (.iload_n 3, 1) := by decide +kernel
theorem dX6_apart_40 : decode cX6_apart 40 = .ok (.ireturn, 1) := by decide +kernel
theorem dX6_let_0 : decode cX6_let 0 = .ok (.aload_n 0, 1) := by decide +kernel
theorem dX6_let_1 : decode cX6_let 1 = .ok (.iconst 0, 1) := by decide +kernel
theorem dX6_let_2 : decode cX6_let 2 = .ok (.putfield 106, 3) := by decide +kernel
theorem dX6_let_5 : decode cX6_let 5 = .ok (.aload_n 0, 1) := by decide +kernel
theorem dX6_let_6 : decode cX6_let 6 = .ok (.iload_n 1, 1) := by decide +kernel
theorem dX6_let_7 : decode cX6_let 7 = .ok (.invokevirtual 179, 3) := by decide +kernel
theorem dX6_let_10 : decode cX6_let 10 = .ok (.ifCond .ne 5, 3) := by decide +kernel
theorem dX6_let_13 : decode cX6_let 13 = .ok (.iconst (-1), 1) := by decide +kernel
theorem dX6_let_14 : decode cX6_let 14 = .ok (.ireturn, 1) := by decide +kernel
theorem dX6_let_15 : decode cX6_let 15 = .ok (.aload_n 0, 1) := by decide +kernel
theorem dX6_let_16 : decode cX6_let 16 = .ok (.getfield 30, 3) := by decide +kernel
theorem dX6_let_19 : decode cX6_let 19 = .ok (.iload_n 1, 1) := by decide +kernel
theorem dX6_let_20 : decode cX6_let 20 = .ok (.iaload, 1) := by decide +kernel
theorem dX6_let_21 : decode cX6_let 21 = .ok (.istore_n 2, 1) := by decide +kernel
theorem dX6_let_22 : decode cX6_let 22 = .ok (.aload_n 0, 1) := by decide +kernel
theorem dX6_let_23 : decode cX6_let 23 = .ok (.getfield 30, 3) := by decide +kernel
theorem dX6_let_26 : decode cX6_let 26 = .ok (.iload_n 1, 1) := by decide +kernel
theorem dX6_let_27 : decode cX6_let 27 = .ok (.bipush (-9), 2) := by decide +kernel
theorem dX6_let_29 : decode cX6_let 29 = .ok (.iastore, 1) := by decide +kernel
theorem dX6_let_30 : decode cX6_let 30 = .ok (.iload_n 2, 1) := by decide +kernel
theorem dX6_let_31 : decode cX6_let 31 = .ok (.bipush (-9), 2) := by decide +kernel
theorem dX6_let_33 : decode cX6_let 33 = .ok (.if_icmp .ne 8, 3) := by decide +kernel
theorem dX6_let_36 : decode cX6_let 36 = .ok (.bipush (-2), 2) := by decide +kernel
theorem dX6_let_38 : decode cX6_let 38 = .ok (.goto 4, 3) := by decide +kernel
theorem dX6_let_41 : decode cX6_let 41 = .ok (.iload_n 2, 1) := by decide +kernel
theorem dX6_let_42 : decode cX6_let 42 = .ok (.ireturn, 1) := by decide +kernel
theorem dX6_left_0 : decode cX6_left 0 = .ok (.aload_n 0, 1) := by decide +kernel
theorem dX6_left_1 : decode cX6_left 1 = .ok (.invokevirtual 153, 3) := by decide +kernel
theorem dX6_left_4 : decode cX6_left 4 = .ok (.iconst 0, 1) := by decide +kernel
theorem dX6_left_5 : decode cX6_left 5 = .ok (.istore_n 3, 1) := by decide +kernel
theorem dX6_left_6 : decode cX6_left 6 = .ok (.iconst 0, 1) := by decide +kernel
theorem dX6_left_7 : decode cX6_left 7 = .ok (.istore 4, 2) := by decide +kernel
theorem dX6_left_9 : decode cX6_left 9 = .ok (.iload 4, 2) := by decide +kernel
theorem dX6_left_11 : decode cX6_left 11 = .ok (.aload_n 0, 1) := by decide +kernel
theorem dX6_left_12 : decode cX6_left 12 = .ok (.getfield 7, 3) := by decide +kernel
theorem dX6_left_15 : decode cX6_left 15 = .ok (.if_icmp .ge 39, 3) := by decide +kernel
theorem dX6_left_18 : decode cX6_left 18 = .ok (.aload_n 1, 1) := by decide +kernel
theorem dX6_left_19 : decode cX6_left 19 = .ok (.iload_n 2, 1) := by decide +kernel
theorem dX6_left_20 : decode cX6_left 20 = .ok (.iload 4, 2) := by decide +kernel
theorem dX6_left_22 : decode cX6_left 22 = .ok (.iadd, 1) := by decide +kernel
theorem dX6_left_23 : decode cX6_left 23 = .ok (.iaload, 1) := by decide +kernel
theorem dX6_left_24 : decode cX6_left 24 = .ok (.aload_n 0, 1) := by decide +kernel
theorem dX6_left_25 : decode cX6_left 25 = .ok (.getfield 33, 3) := by decide +kernel
theorem dX6_left_28 : decode cX6_left 28 = .ok (.iload 4, 2) := by decide +kernel
theorem dX6_left_30 : decode cX6_left 30 = .ok (.iaload, 1) := by decide +kernel
theorem dX6_left_31 : decode cX6_left 31 = .ok (.isub, 1) := by decide +kernel
theorem dX6_left_32 : decode cX6_left 32 = .ok (.istore 5, 2) := by decide +kernel
theorem dX6_left_34 : decode cX6_left 34 = .ok (.iload_n 3, 1) := by decide +kernel
theorem dX6_left_35 : decode cX6_left 35 = .ok (.iload 5, 2) := by decide +kernel
theorem dX6_left_37 : decode cX6_left 37 = .ok (.ifCond .le 8, 3) := by decide +kernel
theorem dX6_left_40 : decode cX6_left 40 = .ok (.iload 5, 2) := by decide +kernel
theorem dX6_left_42 : decode cX6_left 42 = .ok (.goto 4, 3) := by decide +kernel
theorem dX6_left_45 : decode cX6_left 45 = .ok (.iconst 0, 1) := by decide +kernel
theorem dX6_left_46 : decode cX6_left 46 = .ok (.iadd, 1) := by decide +kernel
theorem dX6_left_47 : decode cX6_left 47 = .ok (.istore_n 3, 1) := by decide +kernel
theorem dX6_left_48 : decode cX6_left 48 = .ok (.iinc 4 1, 3) := by decide +kernel
theorem dX6_left_51 : decode cX6_left 51 = .ok (.goto (-42), 3) := by decide +kernel
theorem dX6_left_54 : decode cX6_left 54 = .ok (.iload_n 3, 1) := by decide +kernel
theorem dX6_left_55 : decode cX6_left 55 = .ok (.ireturn, 1) := by decide +kernel
theorem dX6_taken_0 : decode cX6_taken 0 = .ok (.aload_n 0, 1) := by decide +kernel
theorem dX6_taken_1 : decode cX6_taken 1 = .ok (.iconst 0, 1) := by decide +kernel
theorem dX6_taken_2 : decode cX6_taken 2 = .ok (.putfield 106, 3) := by decide +kernel
theorem dX6_taken_5 : decode cX6_taken 5 = .ok (.aload_n 0, 1) := by decide +kernel
theorem dX6_taken_6 : decode cX6_taken 6 = .ok (.iload_n 1, 1) := by decide +kernel
theorem dX6_taken_7 : decode cX6_taken 7 = .ok (.invokevirtual 179, 3) := by decide +kernel
theorem dX6_taken_10 : decode cX6_taken 10 = .ok (.ifCond .eq 17, 3) := by decide +kernel
theorem dX6_taken_13 : decode cX6_taken 13 = .ok (.aload_n 0, 1) := by decide +kernel
theorem dX6_taken_14 : decode cX6_taken 14 = .ok (.aload_n 0, 1) := by decide +kernel
theorem dX6_taken_15 : decode cX6_taken 15 = .ok (.getfield 24, 3) := by decide +kernel
theorem dX6_taken_18 : decode cX6_taken 18 = .ok (.iconst 4, 1) := by decide +kernel
theorem dX6_taken_19 : decode cX6_taken 19 = .ok (.iload_n 1, 1) := by decide +kernel
theorem dX6_taken_20 : decode cX6_taken 20 = .ok (.imul, 1) := by decide +kernel
theorem dX6_taken_21 : decode cX6_taken 21 = .ok (.invokevirtual 259, 3) := by decide +kernel
theorem dX6_taken_24 : decode cX6_taken 24 = .ok (.goto 4, 3) := by decide +kernel
theorem dX6_taken_27 : decode cX6_taken 27 = .ok (.iconst (-1), 1) := by decide +kernel
theorem dX6_taken_28 : decode cX6_taken 28 = .ok (.ireturn, 1) := by decide +kernel
theorem dX6_room_0 : decode cX6_room 0 = .ok (.aload_n 0, 1) := by decide +kernel
theorem dX6_room_1 : decode cX6_room 1 = .ok (.iconst 0, 1) := by decide +kernel
theorem dX6_room_2 : decode cX6_room 2 = .ok (.putfield 106, 3) := by decide +kernel
theorem dX6_room_5 : decode cX6_room 5 = .ok (.aload_n 0, 1) := by decide +kernel
theorem dX6_room_6 : decode cX6_room 6 = .ok (.iload_n 1, 1) := by decide +kernel
theorem dX6_room_7 : decode cX6_room 7 = .ok (.invokevirtual 179, 3) := by decide +kernel
theorem dX6_room_10 : decode cX6_room 10 = .ok (.ifCond .eq 14, 3) := by decide +kernel
theorem dX6_room_13 : decode cX6_room 13 = .ok (.iload_n 2, 1) := by decide +kernel
theorem dX6_room_14 : decode cX6_room 14 = .ok (.iconst 0, 1) := by decide +kernel
theorem dX6_room_15 : decode cX6_room 15 = .ok (.sipush 200, 3) := by decide +kernel
theorem dX6_room_18 : decode cX6_room 18 = .ok (.invokestatic 115, 3) := by decide +kernel
theorem dX6_room_21 : decode cX6_room 21 = .ok (.ifCond .ne 5, 3) := by decide +kernel
theorem dX6_room_24 : decode cX6_room 24 = .ok (.iconst (-1), 1) := by decide +kernel
theorem dX6_room_25 : decode cX6_room 25 = .ok (.ireturn, 1) := by decide +kernel
theorem dX6_room_26 : decode cX6_room 26 = .ok (.aload_n 0, 1) := by decide +kernel
theorem dX6_room_27 : decode cX6_room 27 = .ok (.iload_n 1, 1) := by decide +kernel
theorem dX6_room_28 : decode cX6_room 28 = .ok (.invokevirtual 214, 3) := by decide +kernel
theorem dX6_room_31 : decode cX6_room 31 = .ok (.iload_n 2, 1) := by decide +kernel
theorem dX6_room_32 : decode cX6_room 32 = .ok (.if_icmp .le 6, 3) := by decide +kernel
theorem dX6_room_35 : decode cX6_room 35 = .ok (.bipush (-2), 2) := by decide +kernel
theorem dX6_room_37 : decode cX6_room 37 = .ok (.ireturn, 1) := by decide +kernel
theorem dX6_room_38 : decode cX6_room 38 = .ok (.aload_n 0, 1) := by decide +kernel
theorem dX6_room_39 : decode cX6_room 39 = .ok (.getfield 73, 3) := by decide +kernel
theorem dX6_room_42 : decode cX6_room 42 = .ok (.iload_n 1, 1) := by decide +kernel
theorem dX6_room_43 : decode cX6_room 43 = .ok (.iaload, 1) := by decide +kernel
theorem dX6_room_44 : decode cX6_room 44 = .ok (.istore_n 3, 1) := by decide +kernel
theorem dX6_room_45 : decode cX6_room 45 = .ok (.aload_n 0, 1) := by decide +kernel
theorem dX6_room_46 : decode cX6_room 46 = .ok (.getfield 73, 3) := by decide +kernel
theorem dX6_room_49 : decode cX6_room 49 = .ok (.iload_n 1, 1) := by decide +kernel
theorem dX6_room_50 : decode cX6_room 50 = .ok (.iload_n 2, 1) := by decide +kernel
theorem dX6_room_51 : decode cX6_room 51 = .ok (.iastore, 1) := by decide +kernel
theorem dX6_room_52 : decode cX6_room 52 = .ok (.iload_n 3, 1) := by decide +kernel
theorem dX6_room_53 : decode cX6_room 53 = .ok (.ireturn, 1) := by decide +kernel
theorem dX6_cutsFile_0 : decode cX6_cutsFile 0 = .ok (.iconst 0, 1) := by decide +kernel
theorem dX6_cutsFile_1 : decode cX6_cutsFile 1 = .ok (.istore_n 2, 1) := by decide +kernel
theorem dX6_cutsFile_2 : decode cX6_cutsFile 2 = .ok (.iload_n 2, 1) := by decide +kernel
theorem dX6_cutsFile_3 : decode cX6_cutsFile 3 = .ok (.aload_n 0, 1) := by decide +kernel
theorem dX6_cutsFile_4 : decode cX6_cutsFile 4 = .ok (.getfield 64, 3) := by decide +kernel
theorem dX6_cutsFile_7 : decode cX6_cutsFile 7 = .ok (.iload_n 1, 1) := by decide +kernel
theorem dX6_cutsFile_8 : decode cX6_cutsFile 8 = .ok (.iaload, 1) := by decide +kernel
theorem dX6_cutsFile_9 : decode cX6_cutsFile 9 = .ok (.if_icmp .ge 36, 3) := by decide +kernel
theorem dX6_cutsFile_12 : decode cX6_cutsFile 12 = .ok (.aload_n 0, 1) := by decide +kernel
theorem dX6_cutsFile_13 : decode cX6_cutsFile 13 = .ok (.getfield 67, 3) := by decide +kernel
theorem dX6_cutsFile_16 : decode cX6_cutsFile 16 = .ok (.bipush 16, 2) := by decide +kernel
theorem dX6_cutsFile_18 : decode cX6_cutsFile 18 = .ok (.iload_n 1, 1) := by decide +kernel
theorem dX6_cutsFile_19 : decode cX6_cutsFile 19 = .ok (.imul, 1) := by decide +kernel
theorem dX6_cutsFile_20 : decode cX6_cutsFile 20 = .ok (.iload_n 2, 1) := by decide +kernel
theorem dX6_cutsFile_21 : decode cX6_cutsFile 21 = .ok (.iadd, 1) := by decide +kernel
theorem dX6_cutsFile_22 : decode cX6_cutsFile 22 = .ok (.iaload, 1) := by decide +kernel
theorem dX6_cutsFile_23 : decode cX6_cutsFile 23 = .ok (.istore_n 3, 1) := by decide +kernel
theorem dX6_cutsFile_24 : decode cX6_cutsFile 24 = .ok (.aload_n 0, 1) := by decide +kernel
theorem dX6_cutsFile_25 : decode cX6_cutsFile 25 = .ok (.aload_n 0, 1) := by decide +kernel
theorem dX6_cutsFile_26 : decode cX6_cutsFile 26 = .ok (.getfield 20, 3) := by decide +kernel
theorem dX6_cutsFile_29 : decode cX6_cutsFile 29 = .ok (.iload_n 3, 1) := by decide +kernel
