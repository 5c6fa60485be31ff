theorem dX5_sum_94 : decode cX5_sum 94 = .ok (.iload_n 3, 1) := by decide +kernel
theorem dX5_sum_95 : decode cX5_sum 95 = .ok (.iconst 1, 1) := by decide +kernel
theorem dX5_sum_96 : decode cX5_sum 96 = .ok (.iadd, 1) := by decide +kernel
theorem dX5_sum_97 : decode cX5_sum 97 = .ok (.iload 4, 2) := by decide +kernel
theorem dX5_sum_99 : decode cX5_sum 99 = .ok (.iload 5, 2) := by decide +kernel
theorem dX5_sum_101 : decode cX5_sum 101 = .ok (.imul, 1) := by decide +kernel
theorem dX5_sum_102 : decode cX5_sum 102 = .ok (.iadd, 1) := by decide +kernel
theorem dX5_sum_103 : decode cX5_sum 103 = .ok (.ldc 213, 2) := by decide +kernel
theorem dX5_sum_105 : decode cX5_sum 105 = .ok (.irem, 1) := by decide +kernel
theorem dX5_sum_106 : decode cX5_sum 106 = .ok (.istore_n 3, 1) := by decide +kernel
theorem dX5_sum_107 : decode cX5_sum 107 = .ok (.iinc 4 1, 3) := by decide +kernel
theorem dX5_sum_110 : decode cX5_sum 110 = .ok (.goto (-74), 3) := by decide +kernel
theorem dX5_sum_113 : decode cX5_sum 113 = .ok (.iload_n 3, 1) := by decide +kernel
theorem dX5_sum_114 : decode cX5_sum 114 = .ok (.ireturn, 1) := by decide +kernel
theorem dX5_differ_0 : decode cX5_differ 0 = .ok (.aload_n 0, 1) := by decide +kernel
theorem dX5_differ_1 : decode cX5_differ 1 = .ok (.iload_n 1, 1) := by decide +kernel
theorem dX5_differ_2 : decode cX5_differ 2 = .ok (.invokevirtual 62, 3) := by decide +kernel
theorem dX5_differ_5 : decode cX5_differ 5 = .ok (.ifCond .eq 11, 3) := by decide +kernel
theorem dX5_differ_8 : decode cX5_differ 8 = .ok (.aload_n 0, 1) := by decide +kernel
theorem dX5_differ_9 : decode cX5_differ 9 = .ok (.iload_n 2, 1) := by decide +kernel
theorem dX5_differ_10 : decode cX5_differ 10 = .ok (.invokevirtual 62, 3) := by decide +kernel
theorem dX5_differ_13 : decode cX5_differ 13 = .ok (.ifCond .ne 5, 3) := by decide +kernel
theorem dX5_differ_16 : decode cX5_differ 16 = .ok (.iconst (-1), 1) := by decide +kernel
theorem dX5_differ_17 : decode cX5_differ 17 = .ok (.ireturn, 1) := by decide +kernel
theorem dX5_differ_18 : decode cX5_differ 18 = .ok (.iconst 0, 1) := by decide +kernel
theorem dX5_differ_19 : decode cX5_differ 19 = .ok (.istore_n 3, 1) := by decide +kernel
theorem dX5_differ_20 : decode cX5_differ 20 = .ok (.iconst 0, 1) := by decide +kernel
theorem dX5_differ_21 : decode cX5_differ 21 = .ok (.istore 4, 2) := by decide +kernel
theorem dX5_differ_23 : decode cX5_differ 23 = .ok (.iload 4, 2) := by decide +kernel
theorem dX5_differ_25 : decode cX5_differ 25 = .ok (.iconst 4, 1) := by decide +kernel
theorem dX5_differ_26 : decode cX5_differ 26 = .ok (.if_icmp .ge 50, 3) := by decide +kernel
theorem dX5_differ_29 : decode cX5_differ 29 = .ok (.iload_n 3, 1) := by decide +kernel
theorem dX5_differ_30 : decode cX5_differ 30 = .ok (.aload_n 0, 1) := by decide +kernel
theorem dX5_differ_31 : decode cX5_differ 31 = .ok (.getfield 12, 3) := by decide +kernel
theorem dX5_differ_34 : decode cX5_differ 34 = .ok (.aload_n 0, 1) := by decide +kernel
theorem dX5_differ_35 : decode cX5_differ 35 = .ok (.getfield 12, 3) := by decide +kernel
theorem dX5_differ_38 : decode cX5_differ 38 = .ok (.getfield 214, 3) := by decide +kernel
theorem dX5_differ_41 : decode cX5_differ 41 = .ok (.iload_n 1, 1) := by decide +kernel
theorem dX5_differ_42 : decode cX5_differ 42 = .ok (.iload 4, 2) := by decide +kernel
theorem dX5_differ_44 : decode cX5_differ 44 = .ok (.invokevirtual 217, 3) := by decide +kernel
theorem dX5_differ_47 : decode cX5_differ 47 = .ok (.aload_n 0, 1) := by decide +kernel
theorem dX5_differ_48 : decode cX5_differ 48 = .ok (.getfield 12, 3) := by decide +kernel
theorem dX5_differ_51 : decode cX5_differ 51 = .ok (.aload_n 0, 1) := by decide +kernel
theorem dX5_differ_52 : decode cX5_differ 52 = .ok (.getfield 12, 3) := by decide +kernel
theorem dX5_differ_55 : decode cX5_differ 55 = .ok (.getfield 214, 3) := by decide +kernel
theorem dX5_differ_58 : decode cX5_differ 58 = .ok (.iload_n 2, 1) := by decide +kernel
theorem dX5_differ_59 : decode cX5_differ 59 = .ok (.iload 4, 2) := by decide +kernel
theorem dX5_differ_61 : decode cX5_differ 61 = .ok (.invokevirtual 217, 3) := by decide +kernel
theorem dX5_differ_64 : decode cX5_differ 64 = .ok (.isub, 1) := by decide +kernel
theorem dX5_differ_65 : decode cX5_differ 65 = .ok (.invokestatic 220, 3) := by decide +kernel
theorem dX5_differ_68 : decode cX5_differ 68 = .ok (.iadd, 1) := by decide +kernel
theorem dX5_differ_69 : decode cX5_differ 69 = .ok (.istore_n 3, 1) := by decide +kernel
theorem dX5_differ_70 : decode cX5_differ 70 = .ok (.iinc 4 1, 3) := by decide +kernel
theorem dX5_differ_73 : decode cX5_differ 73 = .ok (.goto (-50), 3) := by decide +kernel
theorem dX5_differ_76 : decode cX5_differ 76 = .ok (.iload_n 3, 1) := by decide +kernel
theorem dX5_differ_77 : decode cX5_differ 77 = .ok (.ireturn, 1) := by decide +kernel
theorem dX5_apart_0 : decode cX5_apart 0 = .ok (.aload_n 0, 1) := by decide +kernel
theorem dX5_apart_1 : decode cX5_apart 1 = .ok (.iload_n 1, 1) := by decide +kernel
theorem dX5_apart_2 : decode cX5_apart 2 = .ok (.invokevirtual 62, 3) := by decide +kernel
theorem dX5_apart_5 : decode cX5_apart 5 = .ok (.ifCond .eq 13, 3) := by decide +kernel
theorem dX5_apart_8 : decode cX5_apart 8 = .ok (.iload_n 2, 1) := by decide +kernel
theorem dX5_apart_9 : decode cX5_apart 9 = .ok (.ifCond .lt 9, 3) := by decide +kernel
theorem dX5_apart_12 : decode cX5_apart 12 = .ok (.iload_n 2, 1) := by decide +kernel
theorem dX5_apart_13 : decode cX5_apart 13 = .ok (.bipush 20, 2) := by decide +kernel
theorem dX5_apart_15 : decode cX5_apart 15 = .ok (.if_icmp .le 5, 3) := by decide +kernel
theorem dX5_apart_18 : decode cX5_apart 18 = .ok (.iconst (-1), 1) := by decide +kernel
theorem dX5_apart_19 : decode cX5_apart 19 = .ok (.ireturn, 1) := by decide +kernel
theorem dX5_apart_20 : decode cX5_apart 20 = .ok (.aload_n 0, 1) := by decide +kernel
theorem dX5_apart_21 : decode cX5_apart 21 = .ok (.getfield 12, 3) := by decide +kernel
theorem dX5_apart_24 : decode cX5_apart 24 = .ok (.iload_n 1, 1) := by decide +kernel
theorem dX5_apart_25 : decode cX5_apart 25 = .ok (.iload_n 2, 1) := by decide +kernel
theorem dX5_apart_26 : decode cX5_apart 26 = .ok (.invokevirtual 225, 3) := by decide +kernel
theorem dX5_apart_29 : decode cX5_apart 29 = .ok (.ireturn, 1) := by decide +kernel
theorem dX5_let_0 : decode cX5_let 0 = .ok (.aload_n 0, 1) := by decide +kernel
theorem dX5_let_1 : decode cX5_let 1 = .ok (.iload_n 1, 1) := by decide +kernel
theorem dX5_let_2 : decode cX5_let 2 = .ok (.invokevirtual 62, 3) := by decide +kernel
theorem dX5_let_5 : decode cX5_let 5 = .ok (.ifCond .ne 5, 3) := by decide +kernel
theorem dX5_let_8 : decode cX5_let 8 = .ok (.iconst (-1), 1) := by decide +kernel
theorem dX5_let_9 : decode cX5_let 9 = .ok (.ireturn, 1) := by decide +kernel
theorem dX5_let_10 : decode cX5_let 10 = .ok (.aload_n 0, 1) := by decide +kernel
theorem dX5_let_11 : decode cX5_let 11 = .ok (.getfield 12, 3) := by decide +kernel
theorem dX5_let_14 : decode cX5_let 14 = .ok (.getfield 228, 3) := by decide +kernel
theorem dX5_let_17 : decode cX5_let 17 = .ok (.iload_n 1, 1) := by decide +kernel
theorem dX5_let_18 : decode cX5_let 18 = .ok (.iaload, 1) := by decide +kernel
theorem dX5_let_19 : decode cX5_let 19 = .ok (.bipush (-9), 2) := by decide +kernel
theorem dX5_let_21 : decode cX5_let 21 = .ok (.if_icmp .ne 6, 3) := by decide +kernel
theorem dX5_let_24 : decode cX5_let 24 = .ok (.bipush (-2), 2) := by decide +kernel
theorem dX5_let_26 : decode cX5_let 26 = .ok (.ireturn, 1) := by decide +kernel
theorem dX5_let_27 : decode cX5_let 27 = .ok (.aload_n 0, 1) := by decide +kernel
theorem dX5_let_28 : decode cX5_let 28 = .ok (.getfield 12, 3) := by decide +kernel
theorem dX5_let_31 : decode cX5_let 31 = .ok (.iload_n 1, 1) := by decide +kernel
theorem dX5_let_32 : decode cX5_let 32 = .ok (.bipush (-9), 2) := by decide +kernel
theorem dX5_let_34 : decode cX5_let 34 = .ok (.invokevirtual 225, 3) := by decide +kernel
theorem dX5_let_37 : decode cX5_let 37 = .ok (.ireturn, 1) := by decide +kernel
theorem dX5_taken_0 : decode cX5_taken 0 = .ok (.aload_n 0, 1) := by decide +kernel
theorem dX5_taken_1 : decode cX5_taken 1 = .ok (.iload_n 1, 1) := by decide +kernel
theorem dX5_taken_2 : decode cX5_taken 2 = .ok (.invokevirtual 62, 3) := by decide +kernel
theorem dX5_taken_5 : decode cX5_taken 5 = .ok (.ifCond .ne 5, 3) := by decide +kernel
theorem dX5_taken_8 : decode cX5_taken 8 = .ok (.iconst (-1), 1) := by decide +kernel
theorem dX5_taken_9 : decode cX5_taken 9 = .ok (.ireturn, 1) := by decide +kernel
theorem dX5_taken_10 : decode cX5_taken 10 = .ok (.iconst 0, 1) := by decide +kernel
theorem dX5_taken_11 : decode cX5_taken 11 = .ok (.istore_n 2, 1) := by decide +kernel
theorem dX5_taken_12 : decode cX5_taken 12 = .ok (.iconst 0, 1) := by decide +kernel
theorem dX5_taken_13 : decode cX5_taken 13 = .ok (.istore_n 3, 1) := by decide +kernel
theorem dX5_taken_14 : decode cX5_taken 14 = .ok (.iload_n 3, 1) := by decide +kernel
theorem dX5_taken_15 : decode cX5_taken 15 = .ok (.iconst 4, 1) := by decide +kernel
theorem dX5_taken_16 : decode cX5_taken 16 = .ok (.if_icmp .ge 42, 3) := by decide +kernel
theorem dX5_taken_19 : decode cX5_taken 19 = .ok (.iload_n 2, 1) := by decide +kernel
theorem dX5_taken_20 : decode cX5_taken 20 = .ok (.iconst 0, 1) := by decide +kernel
theorem dX5_taken_21 : decode cX5_taken 21 = .ok (.aload_n 0, 1) := by decide +kernel
theorem dX5_taken_22 : decode cX5_taken 22 = .ok (.getfield 12, 3) := by decide +kernel
theorem dX5_taken_25 : decode cX5_taken 25 = .ok (.aload_n 0, 1) := by decide +kernel
theorem dX5_taken_26 : decode cX5_taken 26 = .ok (.getfield 12, 3) := by decide +kernel
theorem dX5_taken_29 : decode cX5_taken 29 = .ok (.getfield 214, 3) := by decide +kernel
theorem dX5_taken_32 : decode cX5_taken 32 = .ok (.iload_n 1, 1) := by decide +kernel
theorem dX5_taken_33 : decode cX5_taken 33 = .ok (.iload_n 3, 1) := by decide +kernel
theorem dX5_taken_34 : decode cX5_taken 34 = .ok (.invokevirtual 217, 3) := by decide +kernel
theorem dX5_taken_37 : decode cX5_taken 37 = .ok (.aload_n 0, 1) := by decide +kernel
theorem dX5_taken_38 : decode cX5_taken 38 = .ok (.getfield 12, 3) := by decide +kernel
theorem dX5_taken_41 : decode cX5_taken 41 = .ok (.getfield 231, 3) := by decide +kernel
theorem dX5_taken_44 : decode cX5_taken 44 = .ok (.iload_n 3, 1) := by decide +kernel
theorem dX5_taken_45 : decode cX5_taken 45 = .ok (.iaload, 1) := by decide +kernel
theorem dX5_taken_46 : decode cX5_taken 46 = .ok (.isub, 1) := by decide +kernel
theorem dX5_taken_47 : decode cX5_taken 47 = .ok (.invokestatic 234, 3) := by decide +kernel
theorem dX5_taken_50 : decode cX5_taken 50 = .ok (.iadd, 1) := by decide +kernel
theorem dX5_taken_51 : decode cX5_taken 51 = .ok (.istore_n 2, 1) := by decide +kernel
theorem dX5_taken_52 : decode cX5_taken 52 = .ok (.iinc 3 1, 3) := by decide +kernel
theorem dX5_taken_55 : decode cX5_taken 55 = .ok (.goto (-41), 3) := by decide +kernel
theorem dX5_taken_58 : decode cX5_taken 58 = .ok (.iload_n 2, 1) := by decide +kernel
theorem dX5_taken_59 : decode cX5_taken 59 = .ok (.ireturn, 1) := by decide +kernel
theorem dX5_room_0 : decode cX5_room 0 = .ok (.aload_n 0, 1) := by decide +kernel
theorem dX5_room_1 : decode cX5_room 1 = .ok (.iload_n 1, 1) := by decide +kernel
theorem dX5_room_2 : decode cX5_room 2 = .ok (.invokevirtual 62, 3) := by decide +kernel
theorem dX5_room_5 : decode cX5_room 5 = .ok (.ifCond .eq 14, 3) := by decide +kernel
theorem dX5_room_8 : decode cX5_room 8 = .ok (.iload_n 2, 1) := by decide +kernel
theorem dX5_room_9 : decode cX5_room 9 = .ok (.ifCond .lt 10, 3) := by decide +kernel
theorem dX5_room_12 : decode cX5_room 12 = .ok (.iload_n 2, 1) := by decide +kernel
theorem dX5_room_13 : decode cX5_room 13 = .ok (.sipush 200, 3) := by decide +kernel
theorem dX5_room_16 : decode cX5_room 16 = .ok (.if_icmp .le 5, 3) := by decide +kernel
theorem dX5_room_19 : decode cX5_room 19 = .ok (.iconst (-1), 1) := by decide +kernel
theorem dX5_room_20 : decode cX5_room 20 = .ok (.ireturn, 1) := by decide +kernel
theorem dX5_room_21 : decode cX5_room 21 = .ok (.aload_n 0, 1) := by decide +kernel
theorem dX5_room_22 : decode cX5_room 22 = .ok (.getfield 27, 3) := by decide +kernel
theorem dX5_room_25 : decode cX5_room 25 = .ok (.iload_n 1, 1) := by decide +kernel
theorem dX5_room_26 : decode cX5_room 26 = .ok (.aaload, 1) := by decide +kernel
theorem dX5_room_27 : decode cX5_room 27 = .ok (.getfield 237, 3) := by decide +kernel
theorem dX5_room_30 : decode cX5_room 30 = .ok (.iload_n 2, 1) := by decide +kernel
theorem dX5_room_31 : decode cX5_room 31 = .ok (.if_icmp .le 6, 3) := by decide +kernel
theorem dX5_room_34 : decode cX5_room 34 = .ok (.bipush (-2), 2) := by decide +kernel
theorem dX5_room_36 : decode cX5_room 36 = .ok (.ireturn, 1) := by decide +kernel
theorem dX5_room_37 : decode cX5_room 37 = .ok (.aload_n 0, 1) := by decide +kernel
theorem dX5_room_38 : decode cX5_room 38 = .ok (.getfield 41, 3) := by decide +kernel
theorem dX5_room_41 : decode cX5_room 41 = .ok (.iload_n 1, 1) := by decide +kernel
theorem dX5_room_42 : decode cX5_room 42 = .ok (.iaload, 1) := by decide +kernel
theorem dX5_room_43 : decode cX5_room 43 = .ok (.istore_n 3, 1) := by decide +kernel
theorem dX5_room_44 : decode cX5_room 44 = .ok (.aload_n 0, 1) := by decide +kernel
theorem dX5_room_45 : decode cX5_room 45 = .ok (.getfield 41, 3) := by decide +kernel
theorem dX5_room_48 : decode cX5_room 48 = .ok (.iload_n 1, 1) := by decide +kernel
theorem dX5_room_49 : decode cX5_room 49 = .ok (.iload_n 2, 1) := by decide +kernel
theorem dX5_room_50 : decode cX5_room 50 = .ok (.iastore, 1) := by decide +kernel
theorem dX5_room_51 : decode cX5_room 51 = .ok (.iload_n 3, 1) := by decide +kernel
theorem dX5_room_52 : decode cX5_room 52 = .ok (.ireturn, 1) := by decide +kernel
theorem dX5_pieces_0 : decode cX5_pieces 0 = .ok (.aload_n 0, 1) := by decide +kernel
theorem dX5_pieces_1 : decode cX5_pieces 1 = .ok (.iload_n 1, 1) := by decide +kernel
theorem dX5_pieces_2 : decode cX5_pieces 2 = .ok (.invokevirtual 62, 3) := by decide +kernel
theorem dX5_pieces_5 : decode cX5_pieces 5 = .ok (.ifCond .eq 24, 3) := by decide +kernel
theorem dX5_pieces_8 : decode cX5_pieces 8 = .ok (.iload_n 2, 1) := by decide +kernel
theorem dX5_pieces_9 : decode cX5_pieces 9 = .ok (.ifCond .lt 20, 3) := by decide +kernel
theorem dX5_pieces_12 : decode cX5_pieces 12 = .ok (.iload_n 2, 1) := by decide +kernel
theorem dX5_pieces_13 : decode cX5_pieces 13 = .ok (.iconst 2, 1) := by decide +kernel
theorem dX5_pieces_14 : decode cX5_pieces 14 = .ok (.if_icmp .gt 15, 3) := by decide +kernel
theorem dX5_pieces_17 : decode cX5_pieces 17 = .ok (.iload_n 2, 1) := by decide +kernel
theorem dX5_pieces_18 : decode cX5_pieces 18 = .ok (.iconst 2, 1) := by decide +kernel
theorem dX5_pieces_19 : decode cX5_pieces 19 = .ok (.if_icmp .ne 12, 3) := by decide +kernel
theorem dX5_pieces_22 : decode cX5_pieces 22 = .ok (.iload_n 3, 1) := by decide +kernel
theorem dX5_pieces_23 : decode cX5_pieces 23 = .ok (.invokestatic 66, 3) := by decide +kernel
theorem dX5_pieces_26 : decode cX5_pieces 26 = .ok (.ifCond .ne 5, 3) := by decide +kernel
theorem dX5_pieces_29 : decode cX5_pieces 29 = .ok (.iconst (-1), 1) := by decide +kernel
theorem dX5_pieces_30 : decode cX5_pieces 30 = .ok (.ireturn, 1) := by decide +kernel
theorem dX5_pieces_31 : decode cX5_pieces 31 = .ok (.iload_n 2, 1) := by decide +kernel
theorem dX5_pieces_32 : decode cX5_pieces 32 = .ok (.ifCond .ne 13, 3) := by decide +kernel
theorem dX5_pieces_35 : decode cX5_pieces 35 = .ok (.aload_n 0, 1) := by decide +kernel
theorem dX5_pieces_36 : decode cX5_pieces 36 = .ok (.getfield 27, 3) := by decide +kernel
theorem dX5_pieces_39 : decode cX5_pieces 39 = .ok (.iload_n 1, 1) := by decide +kernel
theorem dX5_pieces_40 : decode cX5_pieces 40 = .ok (.aaload, 1) := by decide +kernel
theorem dX5_pieces_41 : decode cX5_pieces 41 = .ok (.getfield 240, 3) := by decide +kernel
theorem dX5_pieces_44 : decode cX5_pieces 44 = .ok (.ireturn, 1) := by decide +kernel
theorem dX5_pieces_45 : decode cX5_pieces 45 = .ok (.iload_n 2, 1) := by decide +kernel
theorem dX5_pieces_46 : decode cX5_pieces 46 = .ok (.iconst 1, 1) := by decide +kernel
theorem dX5_pieces_47 : decode cX5_pieces 47 = .ok (.if_icmp .ne 13, 3) := by decide +kernel
theorem dX5_pieces_50 : decode cX5_pieces 50 = .ok (.aload_n 0, 1) := by decide +kernel
theorem dX5_pieces_51 : decode cX5_pieces 51 = .ok (.getfield 27, 3) := by decide +kernel
theorem dX5_pieces_54 : decode cX5_pieces 54 = .ok (.iload_n 1, 1) := by decide +kernel
theorem dX5_pieces_55 : decode cX5_pieces 55 = .ok (.aaload, 1) := by decide +kernel
theorem dX5_pieces_56 : decode cX5_pieces 56 = .ok (.getfield 237, 3) := by decide +kernel
theorem dX5_pieces_59 : decode cX5_pieces 59 = .ok (.ireturn, 1) := by decide +kernel
theorem dX5_pieces_60 : decode cX5_pieces 60 = .ok (.aload_n 0, 1) := by decide +kernel
theorem dX5_pieces_61 : decode cX5_pieces 61 = .ok (.iload_n 1, 1) := by decide +kernel
theorem dX5_pieces_62 : decode cX5_pieces 62 = .ok (.invokevirtual 72, 3) := by decide +kernel
theorem dX5_pieces_65 : decode cX5_pieces 65 = .ok (.aload_n 0, 1) := by decide +kernel
theorem dX5_pieces_66 : decode cX5_pieces 66 = .ok (.getfield 21, 3) := by decide +kernel
theorem dX5_pieces_69 : decode cX5_pieces 69 = .ok (.iload_n 3, 1) := by decide +kernel
theorem dX5_pieces_70 : decode cX5_pieces 70 = .ok (.invokevirtual 110, 3) := by decide +kernel
theorem dX5_pieces_73 : decode cX5_pieces 73 = .ok (.ifCond .ne 6, 3) := by decide +kernel
theorem dX5_pieces_76 : decode cX5_pieces 76 = .ok (.bipush (-2), 2) := by decide +kernel
theorem dX5_pieces_78 : decode cX5_pieces 78 = .ok (.ireturn, 1) := by decide +kernel
theorem dX5_pieces_79 : decode cX5_pieces 79 = .ok (.aload_n 0, 1) := by decide +kernel
theorem dX5_pieces_80 : decode cX5_pieces 80 = .ok (.iload_n 3, 1) := by decide +kernel
theorem dX5_pieces_81 : decode cX5_pieces 81 = .ok (.invokevirtual 241, 3) := by decide +kernel
theorem dX5_pieces_84 : decode cX5_pieces 84 = .ok (.aload_n 0, 1) := by decide +kernel
theorem dX5_pieces_85 : decode cX5_pieces 85 = .ok (.getfield 34, 3) := by decide +kernel
theorem dX5_pieces_88 : decode cX5_pieces 88 = .ok (.aload_n 0, 1) := by decide +kernel
theorem dX5_pieces_89 : decode cX5_pieces 89 = .ok (.getfield 27, 3) := by decide +kernel
theorem dX5_pieces_92 : decode cX5_pieces 92 = .ok (.iload_n 1, 1) := by decide +kernel
theorem dX5_pieces_93 : decode cX5_pieces 93 = .ok (.aaload, 1) := by decide +kernel
theorem dX5_pieces_94 : decode cX5_pieces 94 = .ok (.invokevirtual 244, 3) := by decide +kernel
theorem dX5_pieces_97 : decode cX5_pieces 97 = .ok (.aload_n 0, 1) := by decide +kernel
theorem dX5_pieces_98 : decode cX5_pieces 98 = .ok (.getfield 34, 3) := by decide +kernel
theorem dX5_pieces_101 : decode cX5_pieces 101 = .ok (.getfield 240, 3) := by decide +kernel
theorem dX5_pieces_104 : decode cX5_pieces 104 = .ok (.ireturn, 1) := by decide +kernel
theorem dX5_fetch_0 : decode cX5_fetch 0 = .ok (.aload_n 0, 1) := by decide +kernel
theorem dX5_fetch_1 : decode cX5_fetch 1 = .ok (.iload_n 1, 1) := by decide +kernel
theorem dX5_fetch_2 : decode cX5_fetch 2 = .ok (.invokevirtual 62, 3) := by decide +kernel
theorem dX5_fetch_5 : decode cX5_fetch 5 = .ok (.ifCond .eq 10, 3) := by decide +kernel
theorem dX5_fetch_8 : decode cX5_fetch 8 = .ok (.iload_n 2, 1) := by decide +kernel
theorem dX5_fetch_9 : decode cX5_fetch 9 = .ok (.invokestatic 66, 3) := by decide +kernel
theorem dX5_fetch_12 : decode cX5_fetch 12 = .ok (.ifCond .ne 5, 3) := by decide +kernel
theorem dX5_fetch_15 : decode cX5_fetch 15 = .ok (.iconst (-1), 1) := by decide +kernel
theorem dX5_fetch_16 : decode cX5_fetch 16 = .ok (.ireturn, 1) := by decide +kernel
theorem dX5_fetch_17 : decode cX5_fetch 17 = .ok (.aload_n 0, 1) := by decide +kernel
theorem dX5_fetch_18 : decode cX5_fetch 18 = .ok (.iload_n 1, 1) := by decide +kernel
theorem dX5_fetch_19 : decode cX5_fetch 19 = .ok (.invokevirtual 72, 3) := by decide +kernel
theorem dX5_fetch_22 : decode cX5_fetch 22 = .ok (.aload_n 0, 1) := by decide +kernel
theorem dX5_fetch_23 : decode cX5_fetch 23 = .ok (.getfield 21, 3) := by decide +kernel
theorem dX5_fetch_26 : decode cX5_fetch 26 = .ok (.iload_n 2, 1) := by decide +kernel
theorem dX5_fetch_27 : decode cX5_fetch 27 = .ok (.invokevirtual 110, 3) := by decide +kernel
theorem dX5_fetch_30 : decode cX5_fetch 30 = .ok (.ifCond .ne 6, 3) := by decide +kernel
theorem dX5_fetch_33 : decode cX5_fetch 33 = .ok (.bipush (-2), 2) := by decide +kernel
theorem dX5_fetch_35 : decode cX5_fetch 35 = .ok (.ireturn, 1) := by decide +kernel
theorem dX5_fetch_36 : decode cX5_fetch 36 = .ok (.aload_n 0, 1) := by decide +kernel
theorem dX5_fetch_37 : decode cX5_fetch 37 = .ok (.iload_n 2, 1) := by decide +kernel
theorem dX5_fetch_38 : decode cX5_fetch 38 = .ok (.invokevirtual 241, 3) := by decide +kernel
theorem dX5_fetch_41 : decode cX5_fetch 41 = .ok (.aload_n 0, 1) := by decide +kernel
theorem dX5_fetch_42 : decode cX5_fetch 42 = .ok (.getfield 34, 3) := by decide +kernel
theorem dX5_fetch_45 : decode cX5_fetch 45 = .ok (.aload_n 0, 1) := by decide +kernel
theorem dX5_fetch_46 : decode cX5_fetch 46 = .ok (.getfield 27, 3) := by decide +kernel
theorem dX5_fetch_49 : decode cX5_fetch 49 = .ok (.iload_n 1, 1) := by decide +kernel
theorem dX5_fetch_50 : decode cX5_fetch 50 = .ok (.aaload, 1) := by decide +kernel
theorem dX5_fetch_51 : decode cX5_fetch 51 = .ok (.invokevirtual 244, 3) := by decide +kernel
theorem dX5_fetch_54 : decode cX5_fetch 54 = .ok (.aload_n 0, 1) := by decide +kernel
theorem dX5_fetch_55 : decode cX5_fetch 55 = .ok (.iload_n 1, 1) := by decide +kernel
theorem dX5_fetch_56 : decode cX5_fetch 56 = .ok (.invokevirtual 247, 3) := by decide +kernel
theorem dX5_fetch_59 : decode cX5_fetch 59 = .ok (.ifCond .eq 11, 3) := by decide +kernel
theorem dX5_fetch_62 : decode cX5_fetch 62 = .ok (.aload_n 0, 1) := by decide +kernel
theorem dX5_fetch_63 : decode cX5_fetch 63 = .ok (.iload_n 1, 1) := by decide +kernel
theorem dX5_fetch_64 : decode cX5_fetch 64 = .ok (.invokevirtual 120, 3) := by decide +kernel
theorem dX5_fetch_67 : decode cX5_fetch 67 = .ok (.ifCond .ne 6, 3) := by decide +kernel
theorem dX5_fetch_70 : decode cX5_fetch 70 = .ok (.bipush (-2), 2) := by decide +kernel
theorem dX5_fetch_72 : decode cX5_fetch 72 = .ok (.ireturn, 1) := by decide +kernel
theorem dX5_fetch_73 : decode cX5_fetch 73 = .ok (.aload_n 0, 1) := by decide +kernel
theorem dX5_fetch_74 : decode cX5_fetch 74 = .ok (.getfield 27, 3) := by decide +kernel
theorem dX5_fetch_77 : decode cX5_fetch 77 = .ok (.iload_n 1, 1) := by decide +kernel
theorem dX5_fetch_78 : decode cX5_fetch 78 = .ok (.aaload, 1) := by decide +kernel
theorem dX5_fetch_79 : decode cX5_fetch 79 = .ok (.aload_n 0, 1) := by decide +kernel
theorem dX5_fetch_80 : decode cX5_fetch 80 = .ok (.getfield 34, 3) := by decide +kernel
theorem dX5_fetch_83 : decode cX5_fetch 83 = .ok (.invokevirtual 130, 3) := by decide +kernel
theorem dX5_fetch_86 : decode cX5_fetch 86 = .ok (.aload_n 0, 1) := by decide +kernel
theorem dX5_fetch_87 : decode cX5_fetch 87 = .ok (.getfield 34, 3) := by decide +kernel
theorem dX5_fetch_90 : decode cX5_fetch 90 = .ok (.getfield 237, 3) := by decide +kernel
theorem dX5_fetch_93 : decode cX5_fetch 93 = .ok (.ireturn, 1) := by decide +kernel
theorem dX5_away_0 : decode cX5_away 0 = .ok (.aload_n 0, 1) := by decide +kernel
theorem dX5_away_1 : decode cX5_away 1 = .ok (.iload_n 1, 1) := by decide +kernel
theorem dX5_away_2 : decode cX5_away 2 = .ok (.invokevirtual 62, 3) := by decide +kernel
theorem dX5_away_5 : decode cX5_away 5 = .ok (.ifCond .eq 10, 3) := by decide +kernel
theorem dX5_away_8 : decode cX5_away 8 = .ok (.iload_n 2, 1) := by decide +kernel
theorem dX5_away_9 : decode cX5_away 9 = .ok (.invokestatic 66, 3) := by decide +kernel
theorem dX5_away_12 : decode cX5_away 12 = .ok (.ifCond .ne 5, 3) := by decide +kernel
theorem dX5_away_15 : decode cX5_away 15 = .ok (.iconst (-1), 1) := by decide +kernel
theorem dX5_away_16 : decode cX5_away 16 = .ok (.ireturn, 1) := by decide +kernel
theorem dX5_away_17 : decode cX5_away 17 = .ok (.aload_n 0, 1) := by decide +kernel
theorem dX5_away_18 : decode cX5_away 18 = .ok (.iload_n 1, 1) := by decide +kernel
theorem dX5_away_19 : decode cX5_away 19 = .ok (.invokevirtual 72, 3) := by decide +kernel
theorem dX5_away_22 : decode cX5_away 22 = .ok (.aload_n 0, 1) := by decide +kernel
theorem dX5_away_23 : decode cX5_away 23 = .ok (.getfield 21, 3) := by decide +kernel
theorem dX5_away_26 : decode cX5_away 26 = .ok (.iload_n 2, 1) := by decide +kernel
theorem dX5_away_27 : decode cX5_away 27 = .ok (.invokevirtual 110, 3) := by decide +kernel
theorem dX5_away_30 : decode cX5_away 30 = .ok (.ifCond .ne 6, 3) := by decide +kernel
theorem dX5_away_33 : decode cX5_away 33 = .ok (.bipush (-2), 2) := by decide +kernel
theorem dX5_away_35 : decode cX5_away 35 = .ok (.ireturn, 1) := by decide +kernel
theorem dX5_away_36 : decode cX5_away 36 = .ok (.aload_n 0, 1) := by decide +kernel
theorem dX5_away_37 : decode cX5_away 37 = .ok (.iload_n 2, 1) := by decide +kernel
theorem dX5_away_38 : decode cX5_away 38 = .ok (.invokevirtual 241, 3) := by decide +kernel
theorem dX5_away_41 : decode cX5_away 41 = .ok (.aload_n 0, 1) := by decide +kernel
theorem dX5_away_42 : decode cX5_away 42 = .ok (.getfield 34, 3) := by decide +kernel
theorem dX5_away_45 : decode cX5_away 45 = .ok (.aload_n 0, 1) := by decide +kernel
theorem dX5_away_46 : decode cX5_away 46 = .ok (.getfield 27, 3) := by decide +kernel
theorem dX5_away_49 : decode cX5_away 49 = .ok (.iload_n 1, 1) := by decide +kernel
theorem dX5_away_50 : decode cX5_away 50 = .ok (.aaload, 1) := by decide +kernel
theorem dX5_away_51 : decode cX5_away 51 = .ok (.invokevirtual 250, 3) := by decide +kernel
theorem dX5_away_54 : decode cX5_away 54 = .ok (.aload_n 0, 1) := by decide +kernel
theorem dX5_away_55 : decode cX5_away 55 = .ok (.iload_n 2, 1) := by decide +kernel
theorem dX5_away_56 : decode cX5_away 56 = .ok (.invokevirtual 253, 3) := by decide +kernel
theorem dX5_away_59 : decode cX5_away 59 = .ok (.aload_n 0, 1) := by decide +kernel
theorem dX5_away_60 : decode cX5_away 60 = .ok (.getfield 34, 3) := by decide +kernel
theorem dX5_away_63 : decode cX5_away 63 = .ok (.aload_n 0, 1) := by decide +kernel
theorem dX5_away_64 : decode cX5_away 64 = .ok (.getfield 38, 3) := by decide +kernel
theorem dX5_away_67 : decode cX5_away 67 = .ok (.invokevirtual 244, 3) := by decide +kernel
theorem dX5_away_70 : decode cX5_away 70 = .ok (.aload_n 0, 1) := by decide +kernel
theorem dX5_away_71 : decode cX5_away 71 = .ok (.iload_n 1, 1) := by decide +kernel
theorem dX5_away_72 : decode cX5_away 72 = .ok (.invokevirtual 247, 3) := by decide +kernel
theorem dX5_away_75 : decode cX5_away 75 = .ok (.ifCond .ne 6, 3) := by decide +kernel
theorem dX5_away_78 : decode cX5_away 78 = .ok (.bipush (-2), 2) := by decide +kernel
theorem dX5_away_80 : decode cX5_away 80 = .ok (.ireturn, 1) := by decide +kernel
theorem dX5_away_81 : decode cX5_away 81 = .ok (.aload_n 0, 1) := by decide +kernel
theorem dX5_away_82 : decode cX5_away 82 = .ok (.getfield 27, 3) := by decide +kernel
theorem dX5_away_85 : decode cX5_away 85 = .ok (.iload_n 1, 1) := by decide +kernel
theorem dX5_away_86 : decode cX5_away 86 = .ok (.aaload, 1) := by decide +kernel
theorem dX5_away_87 : decode cX5_away 87 = .ok (.aload_n 0, 1) := by decide +kernel
theorem dX5_away_88 : decode cX5_away 88 = .ok (.getfield 34, 3) := by decide +kernel
theorem dX5_away_91 : decode cX5_away 91 = .ok (.invokevirtual 244, 3) := by decide +kernel
theorem dX5_away_94 : decode cX5_away 94 = .ok (.aload_n 0, 1) := by decide +kernel
theorem dX5_away_95 : decode cX5_away 95 = .ok (.getfield 34, 3) := by decide +kernel
theorem dX5_away_98 : decode cX5_away 98 = .ok (.getfield 237, 3) := by decide +kernel
theorem dX5_away_101 : decode cX5_away 101 = .ok (.ireturn, 1) := by decide +kernel
theorem dX5_night_0 : decode cX5_night 0 = .ok (.aload_n 0, 1) := by decide +kernel
theorem dX5_night_1 : decode cX5_night 1 = .ok (.getfield 12, 3) := by decide +kernel
theorem dX5_night_4 : decode cX5_night 4 = .ok (.getfield 214, 3) := by decide +kernel
theorem dX5_night_7 : decode cX5_night 7 = .ok (.bipush 29, 2) := by decide +kernel
theorem dX5_night_9 : decode cX5_night 9 = .ok (.if_icmp .lt 6, 3) := by decide +kernel
theorem dX5_night_12 : decode cX5_night 12 = .ok (.bipush (-2), 2) := by decide +kernel
theorem dX5_night_14 : decode cX5_night 14 = .ok (.ireturn, 1) := by decide +kernel
theorem dX5_night_15 : decode cX5_night 15 = .ok (.aload_n 0, 1) := by decide +kernel
theorem dX5_night_16 : decode cX5_night 16 = .ok (.getfield 12, 3) := by decide +kernel
theorem dX5_night_19 : decode cX5_night 19 = .ok (.invokevirtual 256, 3) := by decide +kernel
theorem dX5_night_22 : decode cX5_night 22 = .ok (.aload_n 0, 1) := by decide +kernel
theorem dX5_night_23 : decode cX5_night 23 = .ok (.getfield 12, 3) := by decide +kernel
theorem dX5_night_26 : decode cX5_night 26 = .ok (.getfield 214, 3) := by decide +kernel
theorem dX5_night_29 : decode cX5_night 29 = .ok (.ireturn, 1) := by decide +kernel
theorem dX5_share_0 : decode cX5_share 0 = .ok (.iload_n 1, 1) := by decide +kernel
theorem dX5_share_1 : decode cX5_share 1 = .ok (.invokestatic 259, 3) := by decide +kernel
theorem dX5_share_4 : decode cX5_share 4 = .ok (.ifCond .eq 10, 3) := by decide +kernel
theorem dX5_share_7 : decode cX5_share 7 = .ok (.iload_n 2, 1) := by decide +kernel
theorem dX5_share_8 : decode cX5_share 8 = .ok (.invokestatic 66, 3) := by decide +kernel
theorem dX5_share_11 : decode cX5_share 11 = .ok (.ifCond .ne 5, 3) := by decide +kernel
theorem dX5_share_14 : decode cX5_share 14 = .ok (.iconst (-1), 1) := by decide +kernel
theorem dX5_share_15 : decode cX5_share 15 = .ok (.ireturn, 1) := by decide +kernel
theorem dX5_share_16 : decode cX5_share 16 = .ok (.aload_n 0, 1) := by decide +kernel
theorem dX5_share_17 : decode cX5_share 17 = .ok (.getfield 48, 3) := by decide +kernel
theorem dX5_share_20 : decode cX5_share 20 = .ok (.getfield 262, 3) := by decide +kernel
theorem dX5_share_23 : decode cX5_share 23 = .ok (.bipush 20, 2) := by decide +kernel
theorem dX5_share_25 : decode cX5_share 25 = .ok (.if_icmp .lt 6, 3) := by decide +kernel
theorem dX5_share_28 : decode cX5_share 28 = .ok (.bipush (-3), 2) := by decide +kernel
theorem dX5_share_30 : decode cX5_share 30 = .ok (.ireturn, 1) := by decide +kernel
theorem dX5_share_31 : decode cX5_share 31 = .ok (.aload_n 0, 1) := by decide +kernel
theorem dX5_share_32 : decode cX5_share 32 = .ok (.getfield 48, 3) := by decide +kernel
theorem dX5_share_35 : decode cX5_share 35 = .ok (.iload_n 1, 1) := by decide +kernel
theorem dX5_share_36 : decode cX5_share 36 = .ok (.iload_n 2, 1) := by decide +kernel
theorem dX5_share_37 : decode cX5_share 37 = .ok (.aload_n 0, 1) := by decide +kernel
theorem dX5_share_38 : decode cX5_share 38 = .ok (.getfield 12, 3) := by decide +kernel
theorem dX5_share_41 : decode cX5_share 41 = .ok (.getfield 214, 3) := by decide +kernel
theorem dX5_share_44 : decode cX5_share 44 = .ok (.invokevirtual 263, 3) := by decide +kernel
theorem dX5_share_47 : decode cX5_share 47 = .ok (.ireturn, 1) := by decide +kernel
theorem dX5_take_0 : decode cX5_take 0 = .ok (.iload_n 1, 1) := by decide +kernel
theorem dX5_take_1 : decode cX5_take 1 = .ok (.ifCond .lt 14, 3) := by decide +kernel
theorem dX5_take_4 : decode cX5_take 4 = .ok (.iload_n 1, 1) := by decide +kernel
theorem dX5_take_5 : decode cX5_take 5 = .ok (.aload_n 0, 1) := by decide +kernel
theorem dX5_take_6 : decode cX5_take 6 = .ok (.getfield 48, 3) := by decide +kernel
theorem dX5_take_9 : decode cX5_take 9 = .ok (.getfield 262, 3) := by decide +kernel
theorem dX5_take_12 : decode cX5_take 12 = .ok (.if_icmp .lt 5, 3) := by decide +kernel
theorem dX5_take_15 : decode cX5_take 15 = .ok (.iconst (-1), 1) := by decide +kernel
theorem dX5_take_16 : decode cX5_take 16 = .ok (.ireturn, 1) := by decide +kernel
theorem dX5_take_17 : decode cX5_take 17 = .ok (.aload_n 0, 1) := by decide +kernel
theorem dX5_take_18 : decode cX5_take 18 = .ok (.getfield 48, 3) := by decide +kernel
theorem dX5_take_21 : decode cX5_take 21 = .ok (.getfield 266, 3) := by decide +kernel
theorem dX5_take_24 : decode cX5_take 24 = .ok (.iload_n 1, 1) := by decide +kernel
theorem dX5_take_25 : decode cX5_take 25 = .ok (.iaload, 1) := by decide +kernel
theorem dX5_take_26 : decode cX5_take 26 = .ok (.bipush (-9), 2) := by decide +kernel
theorem dX5_take_28 : decode cX5_take 28 = .ok (.if_icmp .eq 6, 3) := by decide +kernel
theorem dX5_take_31 : decode cX5_take 31 = .ok (.bipush (-2), 2) := by decide +kernel
theorem dX5_take_33 : decode cX5_take 33 = .ok (.ireturn, 1) := by decide +kernel
theorem dX5_take_34 : decode cX5_take 34 = .ok (.aload_n 0, 1) := by decide +kernel
theorem dX5_take_35 : decode cX5_take 35 = .ok (.getfield 48, 3) := by decide +kernel
theorem dX5_take_38 : decode cX5_take 38 = .ok (.getfield 266, 3) := by decide +kernel
theorem dX5_take_41 : decode cX5_take 41 = .ok (.iload_n 1, 1) := by decide +kernel
theorem dX5_take_42 : decode cX5_take 42 = .ok (.aload_n 0, 1) := by decide +kernel
theorem dX5_take_43 : decode cX5_take 43 = .ok (.getfield 12, 3) := by decide +kernel
theorem dX5_take_46 : decode cX5_take 46 = .ok (.getfield 214, 3) := by decide +kernel
theorem dX5_take_49 : decode cX5_take 49 = .ok (.iastore, 1) := by decide +kernel
theorem dX5_take_50 : decode cX5_take 50 = .ok (.aload_n 0, 1) := by decide +kernel
theorem dX5_take_51 : decode cX5_take 51 = .ok (.getfield 48, 3) := by decide +kernel
theorem dX5_take_54 : decode cX5_take 54 = .ok (.getfield 269, 3) := by decide +kernel
theorem dX5_take_57 : decode cX5_take 57 = .ok (.iload_n 1, 1) := by decide +kernel
theorem dX5_take_58 : decode cX5_take 58 = .ok (.iaload, 1) := by decide +kernel
theorem dX5_take_59 : decode cX5_take 59 = .ok (.ireturn, 1) := by decide +kernel
theorem dX5_could_0 : decode cX5_could 0 = .ok (.iload_n 1, 1) := by decide +kernel
theorem dX5_could_1 : decode cX5_could 1 = .ok (.invokestatic 259, 3) := by decide +kernel
theorem dX5_could_4 : decode cX5_could 4 = .ok (.ifCond .eq 27, 3) := by decide +kernel
theorem dX5_could_7 : decode cX5_could 7 = .ok (.aload_n 0, 1) := by decide +kernel
theorem dX5_could_8 : decode cX5_could 8 = .ok (.iload_n 2, 1) := by decide +kernel
theorem dX5_could_9 : decode cX5_could 9 = .ok (.invokevirtual 62, 3) := by decide +kernel
theorem dX5_could_12 : decode cX5_could 12 = .ok (.ifCond .eq 19, 3) := by decide +kernel
theorem dX5_could_15 : decode cX5_could 15 = .ok (.iload_n 3, 1) := by decide +kernel
theorem dX5_could_16 : decode cX5_could 16 = .ok (.invokestatic 66, 3) := by decide +kernel
theorem dX5_could_19 : decode cX5_could 19 = .ok (.ifCond .eq 12, 3) := by decide +kernel
theorem dX5_could_22 : decode cX5_could 22 = .ok (.aload_n 0, 1) := by decide +kernel
theorem dX5_could_23 : decode cX5_could 23 = .ok (.iload 4, 2) := by decide +kernel
theorem dX5_could_25 : decode cX5_could 25 = .ok (.invokevirtual 165, 3) := by decide +kernel
theorem dX5_could_28 : decode cX5_could 28 = .ok (.ifCond .ne 5, 3) := by decide +kernel
theorem dX5_could_31 : decode cX5_could 31 = .ok (.iconst (-1), 1) := by decide +kernel
theorem dX5_could_32 : decode cX5_could 32 = .ok (.ireturn, 1) := by decide +kernel
theorem dX5_could_33 : decode cX5_could 33 = .ok (.aload_n 0, 1) := by decide +kernel
theorem dX5_could_34 : decode cX5_could 34 = .ok (.getfield 21, 3) := by decide +kernel
theorem dX5_could_37 : decode cX5_could 37 = .ok (.iload_n 2, 1) := by decide +kernel
theorem dX5_could_38 : decode cX5_could 38 = .ok (.iload 4, 2) := by decide +kernel
theorem dX5_could_40 : decode cX5_could 40 = .ok (.aload_n 0, 1) := by decide +kernel
theorem dX5_could_41 : decode cX5_could 41 = .ok (.getfield 59, 3) := by decide +kernel
theorem dX5_could_44 : decode cX5_could 44 = .ok (.invokevirtual 168, 3) := by decide +kernel
theorem dX5_could_47 : decode cX5_could 47 = .ok (.aload_n 0, 1) := by decide +kernel
theorem dX5_could_48 : decode cX5_could 48 = .ok (.getfield 21, 3) := by decide +kernel
theorem dX5_could_51 : decode cX5_could 51 = .ok (.iload_n 3, 1) := by decide +kernel
theorem dX5_could_52 : decode cX5_could 52 = .ok (.invokevirtual 107, 3) := by decide +kernel
theorem dX5_could_55 : decode cX5_could 55 = .ok (.ifCond .ne 6, 3) := by decide +kernel
theorem dX5_could_58 : decode cX5_could 58 = .ok (.bipush (-2), 2) := by decide +kernel
theorem dX5_could_60 : decode cX5_could 60 = .ok (.ireturn, 1) := by decide +kernel
theorem dX5_could_61 : decode cX5_could 61 = .ok (.iconst 0, 1) := by decide +kernel
theorem dX5_could_62 : decode cX5_could 62 = .ok (.istore 5, 2) := by decide +kernel
theorem dX5_could_64 : decode cX5_could 64 = .ok (.iload 5, 2) := by decide +kernel
theorem dX5_could_66 : decode cX5_could 66 = .ok (.aload_n 0, 1) := by decide +kernel
theorem dX5_could_67 : decode cX5_could 67 = .ok (.getfield 48, 3) := by decide +kernel
theorem dX5_could_70 : decode cX5_could 70 = .ok (.getfield 262, 3) := by decide +kernel
theorem dX5_could_73 : decode cX5_could 73 = .ok (.if_icmp .ge 47, 3) := by decide +kernel
theorem dX5_could_76 : decode cX5_could 76 = .ok (.aload_n 0, 1) := by decide +kernel
theorem dX5_could_77 : decode cX5_could 77 = .ok (.getfield 48, 3) := by decide +kernel
theorem dX5_could_80 : decode cX5_could 80 = .ok (.iload 5, 2) := by decide +kernel
theorem dX5_could_82 : decode cX5_could 82 = .ok (.iload_n 1, 1) := by decide +kernel
theorem dX5_could_83 : decode cX5_could 83 = .ok (.iload 4, 2) := by decide +kernel
theorem dX5_could_85 : decode cX5_could 85 = .ok (.invokevirtual 272, 3) := by decide +kernel
theorem dX5_could_88 : decode cX5_could 88 = .ok (.ifCond .eq 26, 3) := by decide +kernel
theorem dX5_could_91 : decode cX5_could 91 = .ok (.aload_n 0, 1) := by decide +kernel
theorem dX5_could_92 : decode cX5_could 92 = .ok (.getfield 21, 3) := by decide +kernel
theorem dX5_could_95 : decode cX5_could 95 = .ok (.iload_n 3, 1) := by decide +kernel
theorem dX5_could_96 : decode cX5_could 96 = .ok (.aload_n 0, 1) := by decide +kernel
theorem dX5_could_97 : decode cX5_could 97 = .ok (.getfield 48, 3) := by decide +kernel
theorem dX5_could_100 : decode cX5_could 100 = .ok (.getfield 276, 3) := by decide +kernel
theorem dX5_could_103 : decode cX5_could 103 = .ok (.iload 5, 2) := by decide +kernel
theorem dX5_could_105 : decode cX5_could 105 = .ok (.iaload, 1) := by decide +kernel
theorem dX5_could_106 : decode cX5_could 106 = .ok (.invokevirtual 278, 3) := by decide +kernel
theorem dX5_could_109 : decode cX5_could 109 = .ok (.ifCond .eq 5, 3) := by decide +kernel
theorem dX5_could_112 : decode cX5_could 112 = .ok (.iconst 1, 1) := by decide +kernel
theorem dX5_could_113 : decode cX5_could 113 = .ok (.ireturn, 1) := by decide +kernel
theorem dX5_could_114 : decode cX5_could 114 = .ok (.iinc 5 1, 3) := by decide +kernel
theorem dX5_could_117 : decode cX5_could 117 = .ok (.goto (-53), 3) := by decide +kernel
theorem dX5_could_120 : decode cX5_could 120 = .ok (.iconst 0, 1) := by decide +kernel
theorem dX5_could_121 : decode cX5_could 121 = .ok (.ireturn, 1) := by decide +kernel
theorem dX5_odd_0 : decode cX5_odd 0 = .ok (.aload_n 0, 1) := by decide +kernel
theorem dX5_odd_1 : decode cX5_odd 1 = .ok (.iload_n 1, 1) := by decide +kernel
theorem dX5_odd_2 : decode cX5_odd 2 = .ok (.invokevirtual 62, 3) := by decide +kernel
theorem dX5_odd_5 : decode cX5_odd 5 = .ok (.ifCond .eq 20, 3) := by decide +kernel
theorem dX5_odd_8 : decode cX5_odd 8 = .ok (.aload_n 0, 1) := by decide +kernel
theorem dX5_odd_9 : decode cX5_odd 9 = .ok (.iload_n 2, 1) := by decide +kernel
theorem dX5_odd_10 : decode cX5_odd 10 = .ok (.invokevirtual 165, 3) := by decide +kernel
theorem dX5_odd_13 : decode cX5_odd 13 = .ok (.ifCond .eq 12, 3) := by decide +kernel
theorem dX5_odd_16 : decode cX5_odd 16 = .ok (.iload_n 3, 1) := by decide +kernel
theorem dX5_odd_17 : decode cX5_odd 17 = .ok (.ifCond .lt 8, 3) := by decide +kernel
theorem dX5_odd_20 : decode cX5_odd 20 = .ok (.iload_n 3, 1) := by decide +kernel
theorem dX5_odd_21 : decode cX5_odd 21 = .ok (.iconst 1, 1) := by decide +kernel
theorem dX5_odd_22 : decode cX5_odd 22 = .ok (.if_icmp .le 7, 3) := by decide +kernel
theorem dX5_odd_25 : decode cX5_odd 25 = .ok (.ldc2_w 281, 3) := by decide +kernel
theorem dX5_odd_28 : decode cX5_odd 28 = .ok (.lreturn, 1) := by decide +kernel
theorem dX5_odd_29 : decode cX5_odd 29 = .ok (.aload_n 0, 1) := by decide +kernel
theorem dX5_odd_30 : decode cX5_odd 30 = .ok (.getfield 12, 3) := by decide +kernel
theorem dX5_odd_33 : decode cX5_odd 33 = .ok (.getfield 214, 3) := by decide +kernel
theorem dX5_odd_36 : decode cX5_odd 36 = .ok (.iconst 1, 1) := by decide +kernel
theorem dX5_odd_37 : decode cX5_odd 37 = .ok (.iadd, 1) := by decide +kernel
theorem dX5_odd_38 : decode cX5_odd 38 = .ok (.istore 4, 2) := by decide +kernel
theorem dX5_odd_40 : decode cX5_odd 40 = .ok (.aload_n 0, 1) := by decide +kernel
theorem dX5_odd_41 : decode cX5_odd 41 = .ok (.getfield 12, 3) := by decide +kernel
theorem dX5_odd_44 : decode cX5_odd 44 = .ok (.getfield 138, 3) := by decide +kernel
theorem dX5_odd_47 : decode cX5_odd 47 = .ok (.iload_n 1, 1) := by decide +kernel
theorem dX5_odd_48 : decode cX5_odd 48 = .ok (.iaload, 1) := by decide +kernel
theorem dX5_odd_49 : decode cX5_odd 49 = .ok (.istore 5, 2) := by decide +kernel
theorem dX5_odd_51 : decode cX5_odd 51 = .ok (.iload 4, 2) := by decide +kernel
theorem dX5_odd_53 : decode cX5_odd 53 = .ok (.bipush 8, 2) := by decide +kernel
theorem dX5_odd_55 : decode cX5_odd 55 = .ok (.if_icmp .gt 10, 3) := by decide +kernel
theorem dX5_odd_58 : decode cX5_odd 58 = .ok (.iload 5, 2) := by decide +kernel
theorem dX5_odd_60 : decode cX5_odd 60 = .ok (.bipush 12, 2) := by decide +kernel
theorem dX5_odd_62 : decode cX5_odd 62 = .ok (.if_icmp .le 7, 3) := by decide +kernel
theorem dX5_odd_65 : decode cX5_odd 65 = .ok (.ldc2_w 283, 3) := by decide +kernel
theorem dX5_odd_68 : decode cX5_odd 68 = .ok (.lreturn, 1) := by decide +kernel
theorem dX5_odd_69 : decode cX5_odd 69 = .ok (.iload_n 3, 1) := by decide +kernel
theorem dX5_odd_70 : decode cX5_odd 70 = .ok (.iconst 1, 1) := by decide +kernel
theorem dX5_odd_71 : decode cX5_odd 71 = .ok (.if_icmp .ne 11, 3) := by decide +kernel
theorem dX5_odd_74 : decode cX5_odd 74 = .ok (.iload 4, 2) := by decide +kernel
theorem dX5_odd_76 : decode cX5_odd 76 = .ok (.iload 5, 2) := by decide +kernel
theorem dX5_odd_78 : decode cX5_odd 78 = .ok (.invokestatic 285, 3) := by decide +kernel
theorem dX5_odd_81 : decode cX5_odd 81 = .ok (.lreturn, 1) := by decide +kernel
theorem dX5_odd_82 : decode cX5_odd 82 = .ok (.aload_n 0, 1) := by decide +kernel
theorem dX5_odd_83 : decode cX5_odd 83 = .ok (.getfield 12, 3) := by decide +kernel
theorem dX5_odd_86 : decode cX5_odd 86 = .ok (.iload_n 1, 1) := by decide +kernel
theorem dX5_odd_87 : decode cX5_odd 87 = .ok (.iload_n 2, 1) := by decide +kernel
theorem dX5_odd_88 : decode cX5_odd 88 = .ok (.invokevirtual 289, 3) := by decide +kernel
theorem dX5_odd_91 : decode cX5_odd 91 = .ok (.iload 5, 2) := by decide +kernel
theorem dX5_odd_93 : decode cX5_odd 93 = .ok (.iload 4, 2) := by decide +kernel
theorem dX5_odd_95 : decode cX5_odd 95 = .ok (.invokestatic 292, 3) := by decide +kernel
theorem dX5_odd_98 : decode cX5_odd 98 = .ok (.lreturn, 1) := by decide +kernel
theorem dX5_count_0 : decode cX5_count 0 = .ok (.iload_n 1, 1) := by decide +kernel
theorem dX5_count_1 : decode cX5_count 1 = .ok (.tableswitch 81 0 5 #[39, 44, 52, 60, 68, 73], 39) := by decide +kernel
theorem dX5_count_40 : decode cX5_count 40 = .ok (.aload_n 0, 1) := by decide +kernel
theorem dX5_count_41 : decode cX5_count 41 = .ok (.getfield 55, 3) := by decide +kernel
theorem dX5_count_44 : decode cX5_count 44 = .ok (.ireturn, 1) := by decide +kernel
theorem dX5_count_45 : decode cX5_count 45 = .ok (.aload_n 0, 1) := by decide +kernel
theorem dX5_count_46 : decode cX5_count 46 = .ok (.getfield 12, 3) := by decide +kernel
theorem dX5_count_49 : decode cX5_count 49 = .ok (.getfield 296, 3) := by decide +kernel
theorem dX5_count_52 : decode cX5_count 52 = .ok (.ireturn, 1) := by decide +kernel
theorem dX5_count_53 : decode cX5_count 53 = .ok (.aload_n 0, 1) := by decide +kernel
theorem dX5_count_54 : decode cX5_count 54 = .ok (.getfield 12, 3) := by decide +kernel
theorem dX5_count_57 : decode cX5_count 57 = .ok (.getfield 214, 3) := by decide +kernel
theorem dX5_count_60 : decode cX5_count 60 = .ok (.ireturn, 1) := by decide +kernel
theorem dX5_count_61 : decode cX5_count 61 = .ok (.aload_n 0, 1) := by decide +kernel
theorem dX5_count_62 : decode cX5_count 62 = .ok (.getfield 48, 3) := by decide +kernel
theorem dX5_count_65 : decode cX5_count 65 = .ok (.invokevirtual 299, 3) := by decide +kernel
theorem dX5_count_68 : decode cX5_count 68 = .ok (.ireturn, 1) := by decide +kernel
theorem dX5_count_69 : decode cX5_count 69 = .ok (.aload_n 0, 1) := by decide +kernel
theorem dX5_count_70 : decode cX5_count 70 = .ok (.getfield 59, 3) := by decide +kernel
theorem dX5_count_73 : decode cX5_count 73 = .ok (.ireturn, 1) := by decide +kernel
theorem dX5_count_74 : decode cX5_count 74 = .ok (.aload_n 0, 1) := by decide +kernel
theorem dX5_count_75 : decode cX5_count 75 = .ok (.getfield 12, 3) := by decide +kernel
theorem dX5_count_78 : decode cX5_count 78 = .ok (.invokevirtual 302, 3) := by decide +kernel
theorem dX5_count_81 : decode cX5_count 81 = .ok (.ireturn, 1) := by decide +kernel
theorem dX5_count_82 : decode cX5_count 82 = .ok (.iconst (-1), 1) := by decide +kernel
theorem dX5_count_83 : decode cX5_count 83 = .ok (.ireturn, 1) := by decide +kernel
theorem dX5_trace_0 : decode cX5_trace 0 = .ok (.aload_n 0, 1) := by decide +kernel
theorem dX5_trace_1 : decode cX5_trace 1 = .ok (.getfield 305, 3) := by decide +kernel
theorem dX5_trace_4 : decode cX5_trace 4 = .ok (.lreturn, 1) := by decide +kernel
theorem dX5_beginAnew_0 : decode cX5_beginAnew 0 = .ok (.aload_n 0, 1) := by decide +kernel
theorem dX5_beginAnew_1 : decode cX5_beginAnew 1 = .ok (.iload_n 1, 1) := by decide +kernel
theorem dX5_beginAnew_2 : decode cX5_beginAnew 2 = .ok (.putfield 55, 3) := by decide +kernel
theorem dX5_beginAnew_5 : decode cX5_beginAnew 5 = .ok (.aload_n 0, 1) := by decide +kernel
theorem dX5_beginAnew_6 : decode cX5_beginAnew 6 = .ok (.getfield 12, 3) := by decide +kernel
theorem dX5_beginAnew_9 : decode cX5_beginAnew 9 = .ok (.invokevirtual 308, 3) := by decide +kernel
theorem dX5_beginAnew_12 : decode cX5_beginAnew 12 = .ok (.aload_n 0, 1) := by decide +kernel
theorem dX5_beginAnew_13 : decode cX5_beginAnew 13 = .ok (.getfield 48, 3) := by decide +kernel
theorem dX5_beginAnew_16 : decode cX5_beginAnew 16 = .ok (.iconst 0, 1) := by decide +kernel
theorem dX5_beginAnew_17 : decode cX5_beginAnew 17 = .ok (.putfield 262, 3) := by decide +kernel
theorem dX5_beginAnew_20 : decode cX5_beginAnew 20 = .ok (.iconst 0, 1) := by decide +kernel
theorem dX5_beginAnew_21 : decode cX5_beginAnew 21 = .ok (.istore_n 2, 1) := by decide +kernel
theorem dX5_beginAnew_22 : decode cX5_beginAnew 22 = .ok (.iload_n 2, 1) := by decide +kernel
theorem dX5_beginAnew_23 : decode cX5_beginAnew 23 = .ok (.iconst 4, 1) := by decide +kernel
theorem dX5_beginAnew_24 : decode cX5_beginAnew 24 = .ok (.if_icmp .ge 26, 3) := by decide +kernel
theorem dX5_beginAnew_27 : decode cX5_beginAnew 27 = .ok (.aload_n 0, 1) := by decide +kernel
theorem dX5_beginAnew_28 : decode cX5_beginAnew 28 = .ok (.getfield 27, 3) := by decide +kernel
theorem dX5_beginAnew_31 : decode cX5_beginAnew 31 = .ok (.iload_n 2, 1) := by decide +kernel
theorem dX5_beginAnew_32 : decode cX5_beginAnew 32 = .ok (.aaload, 1) := by decide +kernel
theorem dX5_beginAnew_33 : decode cX5_beginAnew 33 = .ok (.invokevirtual 113, 3) := by decide +kernel
theorem dX5_beginAnew_36 : decode cX5_beginAnew 36 = .ok (.aload_n 0, 1) := by decide +kernel
theorem dX5_beginAnew_37 : decode cX5_beginAnew 37 = .ok (.getfield 41, 3) := by decide +kernel
theorem dX5_beginAnew_40 : decode cX5_beginAnew 40 = .ok (.iload_n 2, 1) := by decide +kernel
theorem dX5_beginAnew_41 : decode cX5_beginAnew 41 = .ok (.bipush 20, 2) := by decide +kernel
theorem dX5_beginAnew_43 : decode cX5_beginAnew 43 = .ok (.iastore, 1) := by decide +kernel
theorem dX5_beginAnew_44 : decode cX5_beginAnew 44 = .ok (.iinc 2 1, 3) := by decide +kernel
theorem dX5_beginAnew_47 : decode cX5_beginAnew 47 = .ok (.goto (-25), 3) := by decide +kernel
theorem dX5_beginAnew_50 : decode cX5_beginAnew 50 = .ok (.return_, 1) := by decide +kernel
theorem dX5_isMachine_0 : decode cX5_isMachine 0 = .ok (.iload_n 1, 1) := by decide +kernel
theorem dX5_isMachine_1 : decode cX5_isMachine 1 = .ok (.ifCond .lt 15, 3) := by decide +kernel
theorem dX5_isMachine_4 : decode cX5_isMachine 4 = .ok (.iload_n 1, 1) := by decide +kernel
theorem dX5_isMachine_5 : decode cX5_isMachine 5 = .ok (.aload_n 0, 1) := by decide +kernel
theorem dX5_isMachine_6 : decode cX5_isMachine 6 = .ok (.getfield 55, 3) := by decide +kernel
theorem dX5_isMachine_9 : decode cX5_isMachine 9 = .ok (.if_icmp .ge 7, 3) := by decide +kernel
theorem dX5_isMachine_12 : decode cX5_isMachine 12 = .ok (.iconst 1, 1) := by decide +kernel
theorem dX5_isMachine_13 : decode cX5_isMachine 13 = .ok (.goto 4, 3) := by decide +kernel
theorem dX5_isMachine_16 : decode cX5_isMachine 16 = .ok (.iconst 0, 1) := by decide +kernel
theorem dX5_isMachine_17 : decode cX5_isMachine 17 = .ok (.ireturn, 1) := by decide +kernel
theorem dX5_isThing_0 : decode cX5_isThing 0 = .ok (.iload_n 0, 1) := by decide +kernel
theorem dX5_isThing_1 : decode cX5_isThing 1 = .ok (.ifCond .lt 13, 3) := by decide +kernel
theorem dX5_isThing_4 : decode cX5_isThing 4 = .ok (.iload_n 0, 1) := by decide +kernel
theorem dX5_isThing_5 : decode cX5_isThing 5 = .ok (.bipush 12, 2) := by decide +kernel
theorem dX5_isThing_7 : decode cX5_isThing 7 = .ok (.if_icmp .ge 7, 3) := by decide +kernel
theorem dX5_isThing_10 : decode cX5_isThing 10 = .ok (.iconst 1, 1) := by decide +kernel
theorem dX5_isThing_11 : decode cX5_isThing 11 = .ok (.goto 4, 3) := by decide +kernel
theorem dX5_isThing_14 : decode cX5_isThing 14 = .ok (.iconst 0, 1) := by decide +kernel
theorem dX5_isThing_15 : decode cX5_isThing 15 = .ok (.ireturn, 1) := by decide +kernel
theorem dX5_isOwnName_0 : decode cX5_isOwnName 0 = .ok (.iload_n 0, 1) := by decide +kernel
theorem dX5_isOwnName_1 : decode cX5_isOwnName 1 = .ok (.ifCond .lt 13, 3) := by decide +kernel
theorem dX5_isOwnName_4 : decode cX5_isOwnName 4 = .ok (.iload_n 0, 1) := by decide +kernel
theorem dX5_isOwnName_5 : decode cX5_isOwnName 5 = .ok (.bipush 10, 2) := by decide +kernel
theorem dX5_isOwnName_7 : decode cX5_isOwnName 7 = .ok (.if_icmp .ge 7, 3) := by decide +kernel
theorem dX5_isOwnName_10 : decode cX5_isOwnName 10 = .ok (.iconst 1, 1) := by decide +kernel
theorem dX5_isOwnName_11 : decode cX5_isOwnName 11 = .ok (.goto 4, 3) := by decide +kernel
theorem dX5_isOwnName_14 : decode cX5_isOwnName 14 = .ok (.iconst 0, 1) := by decide +kernel
theorem dX5_isOwnName_15 : decode cX5_isOwnName 15 = .ok (.ireturn, 1) := by decide +kernel
theorem dX5_isPerson_0 : decode cX5_isPerson 0 = .ok (.iload_n 0, 1) := by decide +kernel
theorem dX5_isPerson_1 : decode cX5_isPerson 1 = .ok (.ifCond .lt 13, 3) := by decide +kernel
theorem dX5_isPerson_4 : decode cX5_isPerson 4 = .ok (.iload_n 0, 1) := by decide +kernel
theorem dX5_isPerson_5 : decode cX5_isPerson 5 = .ok (.bipush 8, 2) := by decide +kernel
theorem dX5_isPerson_7 : decode cX5_isPerson 7 = .ok (.if_icmp .ge 7, 3) := by decide +kernel
theorem dX5_isPerson_10 : decode cX5_isPerson 10 = .ok (.iconst 1, 1) := by decide +kernel
theorem dX5_isPerson_11 : decode cX5_isPerson 11 = .ok (.goto 4, 3) := by decide +kernel
theorem dX5_isPerson_14 : decode cX5_isPerson 14 = .ok (.iconst 0, 1) := by decide +kernel
theorem dX5_isPerson_15 : decode cX5_isPerson 15 = .ok (.ireturn, 1) := by decide +kernel
theorem dX5_isDay_0 : decode cX5_isDay 0 = .ok (.iload_n 1, 1) := by decide +kernel
theorem dX5_isDay_1 : decode cX5_isDay 1 = .ok (.ifCond .lt 18, 3) := by decide +kernel
theorem dX5_isDay_4 : decode cX5_isDay 4 = .ok (.iload_n 1, 1) := by decide +kernel
theorem dX5_isDay_5 : decode cX5_isDay 5 = .ok (.aload_n 0, 1) := by decide +kernel
theorem dX5_isDay_6 : decode cX5_isDay 6 = .ok (.getfield 12, 3) := by decide +kernel
theorem dX5_isDay_9 : decode cX5_isDay 9 = .ok (.getfield 214, 3) := by decide +kernel
theorem dX5_isDay_12 : decode cX5_isDay 12 = .ok (.if_icmp .gt 7, 3) := by decide +kernel
theorem dX5_isDay_15 : decode cX5_isDay 15 = .ok (.iconst 1, 1) := by decide +kernel
theorem dX5_isDay_16 : decode cX5_isDay 16 = .ok (.goto 4, 3) := by decide +kernel
theorem dX5_isDay_19 : decode cX5_isDay 19 = .ok (.iconst 0, 1) := by decide +kernel
theorem dX5_isDay_20 : decode cX5_isDay 20 = .ok (.ireturn, 1) := by decide +kernel
theorem dX5_growNow_0 : decode cX5_growNow 0 = .ok (.aload_n 0, 1) := by decide +kernel
theorem dX5_growNow_1 : decode cX5_growNow 1 = .ok (.getfield 21, 3) := by decide +kernel
theorem dX5_growNow_4 : decode cX5_growNow 4 = .ok (.iload_n 1, 1) := by decide +kernel
theorem dX5_growNow_5 : decode cX5_growNow 5 = .ok (.aload_n 0, 1) := by decide +kernel
theorem dX5_growNow_6 : decode cX5_growNow 6 = .ok (.getfield 12, 3) := by decide +kernel
theorem dX5_growNow_9 : decode cX5_growNow 9 = .ok (.getfield 214, 3) := by decide +kernel
theorem dX5_growNow_12 : decode cX5_growNow 12 = .ok (.aload_n 0, 1) := by decide +kernel
theorem dX5_growNow_13 : decode cX5_growNow 13 = .ok (.getfield 59, 3) := by decide +kernel
theorem dX5_growNow_16 : decode cX5_growNow 16 = .ok (.invokevirtual 168, 3) := by decide +kernel
theorem dX5_growNow_19 : decode cX5_growNow 19 = .ok (.return_, 1) := by decide +kernel
theorem dX5_byteOf_0 : decode cX5_byteOf 0 = .ok (.lload_n 0, 1) := by decide +kernel
theorem dX5_byteOf_1 : decode cX5_byteOf 1 = .ok (.bipush 8, 2) := by decide +kernel
theorem dX5_byteOf_3 : decode cX5_byteOf 3 = .ok (.iload_n 2, 1) := by decide +kernel
theorem dX5_byteOf_4 : decode cX5_byteOf 4 = .ok (.iconst 1, 1) := by decide +kernel
theorem dX5_byteOf_5 : decode cX5_byteOf 5 = .ok (.isub, 1) := by decide +kernel
theorem dX5_byteOf_6 : decode cX5_byteOf 6 = .ok (.iload_n 3, 1) := by decide +kernel
theorem dX5_byteOf_7 : decode cX5_byteOf 7 = .ok (.isub, 1) := by decide +kernel
theorem dX5_byteOf_8 : decode cX5_byteOf 8 = .ok (.imul, 1) := by decide +kernel
theorem dX5_byteOf_9 : decode cX5_byteOf 9 = .ok (.lushr, 1) := by decide +kernel
theorem dX5_byteOf_10 : decode cX5_byteOf 10 = .ok (.l2i, 1) := by decide +kernel
theorem dX5_byteOf_11 : decode cX5_byteOf 11 = .ok (.sipush 255, 3) := by decide +kernel
theorem dX5_byteOf_14 : decode cX5_byteOf 14 = .ok (.iand, 1) := by decide +kernel
theorem dX5_byteOf_15 : decode cX5_byteOf 15 = .ok (.ireturn, 1) := by decide +kernel
theorem dX5_bulkAsThing_0 : decode cX5_bulkAsThing 0 = .ok (.aload_n 0, 1) := by decide +kernel
theorem dX5_bulkAsThing_1 : decode cX5_bulkAsThing 1 = .ok (.dup, 1) := by decide +kernel
theorem dX5_bulkAsThing_2 : decode cX5_bulkAsThing 2 = .ok (.getfield 305, 3) := by decide +kernel
theorem dX5_bulkAsThing_5 : decode cX5_bulkAsThing 5 = .ok (.lconst 1, 1) := by decide +kernel
theorem dX5_bulkAsThing_6 : decode cX5_bulkAsThing 6 = .ok (.ladd, 1) := by decide +kernel
theorem dX5_bulkAsThing_7 : decode cX5_bulkAsThing 7 = .ok (.putfield 305, 3) := by decide +kernel
theorem dX5_bulkAsThing_10 : decode cX5_bulkAsThing 10 = .ok (.iconst 4, 1) := by decide +kernel
theorem dX5_bulkAsThing_11 : decode cX5_bulkAsThing 11 = .ok (.aload_n 0, 1) := by decide +kernel
theorem dX5_bulkAsThing_12 : decode cX5_bulkAsThing 12 = .ok (.getfield 21, 3) := by decide +kernel
theorem dX5_bulkAsThing_15 : decode cX5_bulkAsThing 15 = .ok (.getfield 179, 3) := by decide +kernel
theorem dX5_bulkAsThing_18 : decode cX5_bulkAsThing 18 = .ok (.iload_n 1, 1) := by decide +kernel
theorem dX5_bulkAsThing_19 : decode cX5_bulkAsThing 19 = .ok (.iaload, 1) := by decide +kernel
theorem dX5_bulkAsThing_20 : decode cX5_bulkAsThing 20 = .ok (.iadd, 1) := by decide +kernel
theorem dX5_bulkAsThing_21 : decode cX5_bulkAsThing 21 = .ok (.ireturn, 1) := by decide +kernel
theorem dX5_bulkAsFile_0 : decode cX5_bulkAsFile 0 = .ok (.aload_n 0, 1) := by decide +kernel
theorem dX5_bulkAsFile_1 : decode cX5_bulkAsFile 1 = .ok (.dup, 1) := by decide +kernel
theorem dX5_bulkAsFile_2 : decode cX5_bulkAsFile 2 = .ok (.getfield 305, 3) := by decide +kernel
theorem dX5_bulkAsFile_5 : decode cX5_bulkAsFile 5 = .ok (.ldc2_w 309, 3) := by decide +kernel
theorem dX5_bulkAsFile_8 : decode cX5_bulkAsFile 8 = .ok (.ladd, 1) := by decide +kernel
theorem dX5_bulkAsFile_9 : decode cX5_bulkAsFile 9 = .ok (.putfield 305, 3) := by decide +kernel
theorem dX5_bulkAsFile_12 : decode cX5_bulkAsFile 12 = .ok (.aload_n 0, 1) := by decide +kernel
theorem dX5_bulkAsFile_13 : decode cX5_bulkAsFile 13 = .ok (.iload_n 1, 1) := by decide +kernel
theorem dX5_bulkAsFile_14 : decode cX5_bulkAsFile 14 = .ok (.invokevirtual 203, 3) := by decide +kernel
theorem dX5_bulkAsFile_17 : decode cX5_bulkAsFile 17 = .ok (.aload_n 0, 1) := by decide +kernel
theorem dX5_bulkAsFile_18 : decode cX5_bulkAsFile 18 = .ok (.getfield 21, 3) := by decide +kernel
theorem dX5_bulkAsFile_21 : decode cX5_bulkAsFile 21 = .ok (.iload_n 1, 1) := by decide +kernel
theorem dX5_bulkAsFile_22 : decode cX5_bulkAsFile 22 = .ok (.invokevirtual 311, 3) := by decide +kernel
theorem dX5_bulkAsFile_25 : decode cX5_bulkAsFile 25 = .ok (.iadd, 1) := by decide +kernel
theorem dX5_bulkAsFile_26 : decode cX5_bulkAsFile 26 = .ok (.ireturn, 1) := by decide +kernel
theorem dX5_bulkAsFolder_0 : decode cX5_bulkAsFolder 0 = .ok (.aload_n 0, 1) := by decide +kernel
theorem dX5_bulkAsFolder_1 : decode cX5_bulkAsFolder 1 = .ok (.dup, 1) := by decide +kernel
theorem dX5_bulkAsFolder_2 : decode cX5_bulkAsFolder 2 = .ok (.getfield 305, 3) := by decide +kernel
theorem dX5_bulkAsFolder_5 : decode cX5_bulkAsFolder 5 = .ok (.ldc2_w 313, 3) := by decide +kernel
theorem dX5_bulkAsFolder_8 : decode cX5_bulkAsFolder 8 = .ok (.ladd, 1) := by decide +kernel
theorem dX5_bulkAsFolder_9 : decode cX5_bulkAsFolder 9 = .ok (.putfield 305, 3) := by decide +kernel
theorem dX5_bulkAsFolder_12 : decode cX5_bulkAsFolder 12 = .ok (.aload_n 0, 1) := by decide +kernel
theorem dX5_bulkAsFolder_13 : decode cX5_bulkAsFolder 13 = .ok (.iload_n 1, 1) := by decide +kernel
theorem dX5_bulkAsFolder_14 : decode cX5_bulkAsFolder 14 = .ok (.invokevirtual 203, 3) := by decide +kernel
theorem dX5_bulkAsFolder_17 : decode cX5_bulkAsFolder 17 = .ok (.iconst 3, 1) := by decide +kernel
theorem dX5_bulkAsFolder_18 : decode cX5_bulkAsFolder 18 = .ok (.aload_n 0, 1) := by decide +kernel
theorem dX5_bulkAsFolder_19 : decode cX5_bulkAsFolder 19 = .ok (.getfield 21, 3) := by decide +kernel
theorem dX5_bulkAsFolder_22 : decode cX5_bulkAsFolder 22 = .ok (.iload_n 1, 1) := by decide +kernel
theorem dX5_bulkAsFolder_23 : decode cX5_bulkAsFolder 23 = .ok (.invokevirtual 315, 3) := by decide +kernel
theorem dX5_bulkAsFolder_26 : decode cX5_bulkAsFolder 26 = .ok (.imul, 1) := by decide +kernel
theorem dX5_bulkAsFolder_27 : decode cX5_bulkAsFolder 27 = .ok (.iadd, 1) := by decide +kernel
theorem dX5_bulkAsFolder_28 : decode cX5_bulkAsFolder 28 = .ok (.ireturn, 1) := by decide +kernel
theorem dX5_bulkAsLink_0 : decode cX5_bulkAsLink 0 = .ok (.aload_n 0, 1) := by decide +kernel
theorem dX5_bulkAsLink_1 : decode cX5_bulkAsLink 1 = .ok (.dup, 1) := by decide +kernel
theorem dX5_bulkAsLink_2 : decode cX5_bulkAsLink 2 = .ok (.getfield 305, 3) := by decide +kernel
theorem dX5_bulkAsLink_5 : decode cX5_bulkAsLink 5 = .ok (.ldc2_w 318, 3) := by decide +kernel
theorem dX5_bulkAsLink_8 : decode cX5_bulkAsLink 8 = .ok (.ladd, 1) := by decide +kernel
theorem dX5_bulkAsLink_9 : decode cX5_bulkAsLink 9 = .ok (.putfield 305, 3) := by decide +kernel
theorem dX5_bulkAsLink_12 : decode cX5_bulkAsLink 12 = .ok (.aload_n 0, 1) := by decide +kernel
theorem dX5_bulkAsLink_13 : decode cX5_bulkAsLink 13 = .ok (.iload_n 1, 1) := by decide +kernel
theorem dX5_bulkAsLink_14 : decode cX5_bulkAsLink 14 = .ok (.invokevirtual 203, 3) := by decide +kernel
theorem dX5_bulkAsLink_17 : decode cX5_bulkAsLink 17 = .ok (.iconst 2, 1) := by decide +kernel
theorem dX5_bulkAsLink_18 : decode cX5_bulkAsLink 18 = .ok (.idiv, 1) := by decide +kernel
theorem dX5_bulkAsLink_19 : decode cX5_bulkAsLink 19 = .ok (.ireturn, 1) := by decide +kernel
theorem dX5_bulkAsHeld_0 : decode cX5_bulkAsHeld 0 = .ok (.aload_n 0, 1) := by decide +kernel
theorem dX5_bulkAsHeld_1 : decode cX5_bulkAsHeld 1 = .ok (.dup, 1) := by decide +kernel
theorem dX5_bulkAsHeld_2 : decode cX5_bulkAsHeld 2 = .ok (.getfield 305, 3) := by decide +kernel
theorem dX5_bulkAsHeld_5 : decode cX5_bulkAsHeld 5 = .ok (.ldc2_w 320, 3) := by decide +kernel
theorem dX5_bulkAsHeld_8 : decode cX5_bulkAsHeld 8 = .ok (.ladd, 1) := by decide +kernel
theorem dX5_bulkAsHeld_9 : decode cX5_bulkAsHeld 9 = .ok (.putfield 305, 3) := by decide +kernel
theorem dX5_bulkAsHeld_12 : decode cX5_bulkAsHeld 12 = .ok (.aload_n 0, 1) := by decide +kernel
theorem dX5_bulkAsHeld_13 : decode cX5_bulkAsHeld 13 = .ok (.iload_n 1, 1) := by decide +kernel
theorem dX5_bulkAsHeld_14 : decode cX5_bulkAsHeld 14 = .ok (.invokevirtual 188, 3) := by decide +kernel
