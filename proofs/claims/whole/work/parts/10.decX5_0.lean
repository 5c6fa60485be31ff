theorem dX5_init_0 : decode cX5_init 0 = .ok (.aload_n 0, 1) := by decide +kernel
theorem dX5_init_1 : decode cX5_init 1 = .ok (.invokespecial 3, 3) := by decide +kernel
theorem dX5_init_4 : decode cX5_init 4 = .ok (.aload_n 0, 1) := by decide +kernel
theorem dX5_init_5 : decode cX5_init 5 = .ok (.new 9, 3) := by decide +kernel
theorem dX5_init_8 : decode cX5_init 8 = .ok (.dup, 1) := by decide +kernel
theorem dX5_init_9 : decode cX5_init 9 = .ok (.invokespecial 11, 3) := by decide +kernel
theorem dX5_init_12 : decode cX5_init 12 = .ok (.putfield 12, 3) := by decide +kernel
theorem dX5_init_15 : decode cX5_init 15 = .ok (.aload_n 0, 1) := by decide +kernel
theorem dX5_init_16 : decode cX5_init 16 = .ok (.new 16, 3) := by decide +kernel
theorem dX5_init_19 : decode cX5_init 19 = .ok (.dup, 1) := by decide +kernel
theorem dX5_init_20 : decode cX5_init 20 = .ok (.aload_n 0, 1) := by decide +kernel
theorem dX5_init_21 : decode cX5_init 21 = .ok (.getfield 12, 3) := by decide +kernel
theorem dX5_init_24 : decode cX5_init 24 = .ok (.invokespecial 18, 3) := by decide +kernel
theorem dX5_init_27 : decode cX5_init 27 = .ok (.putfield 21, 3) := by decide +kernel
theorem dX5_init_30 : decode cX5_init 30 = .ok (.aload_n 0, 1) := by decide +kernel
theorem dX5_init_31 : decode cX5_init 31 = .ok (.iconst 4, 1) := by decide +kernel
theorem dX5_init_32 : decode cX5_init 32 = .ok (.anewarray 25, 3) := by decide +kernel
theorem dX5_init_35 : decode cX5_init 35 = .ok (.putfield 27, 3) := by decide +kernel
theorem dX5_init_38 : decode cX5_init 38 = .ok (.iconst 0, 1) := by decide +kernel
theorem dX5_init_39 : decode cX5_init 39 = .ok (.istore_n 1, 1) := by decide +kernel
theorem dX5_init_40 : decode cX5_init 40 = .ok (.iload_n 1, 1) := by decide +kernel
theorem dX5_init_41 : decode cX5_init 41 = .ok (.iconst 4, 1) := by decide +kernel
theorem dX5_init_42 : decode cX5_init 42 = .ok (.if_icmp .ge 25, 3) := by decide +kernel
theorem dX5_init_45 : decode cX5_init 45 = .ok (.aload_n 0, 1) := by decide +kernel
theorem dX5_init_46 : decode cX5_init 46 = .ok (.getfield 27, 3) := by decide +kernel
theorem dX5_init_49 : decode cX5_init 49 = .ok (.iload_n 1, 1) := by decide +kernel
theorem dX5_init_50 : decode cX5_init 50 = .ok (.new 25, 3) := by decide +kernel
theorem dX5_init_53 : decode cX5_init 53 = .ok (.dup, 1) := by decide +kernel
theorem dX5_init_54 : decode cX5_init 54 = .ok (.sipush 200, 3) := by decide +kernel
theorem dX5_init_57 : decode cX5_init 57 = .ok (.invokespecial 31, 3) := by decide +kernel
theorem dX5_init_60 : decode cX5_init 60 = .ok (.aastore, 1) := by decide +kernel
theorem dX5_init_61 : decode cX5_init 61 = .ok (.iinc 1 1, 3) := by decide +kernel
theorem dX5_init_64 : decode cX5_init 64 = .ok (.goto (-24), 3) := by decide +kernel
theorem dX5_init_67 : decode cX5_init 67 = .ok (.aload_n 0, 1) := by decide +kernel
theorem dX5_init_68 : decode cX5_init 68 = .ok (.new 25, 3) := by decide +kernel
theorem dX5_init_71 : decode cX5_init 71 = .ok (.dup, 1) := by decide +kernel
theorem dX5_init_72 : decode cX5_init 72 = .ok (.bipush 32, 2) := by decide +kernel
theorem dX5_init_74 : decode cX5_init 74 = .ok (.invokespecial 31, 3) := by decide +kernel
theorem dX5_init_77 : decode cX5_init 77 = .ok (.putfield 34, 3) := by decide +kernel
theorem dX5_init_80 : decode cX5_init 80 = .ok (.aload_n 0, 1) := by decide +kernel
theorem dX5_init_81 : decode cX5_init 81 = .ok (.new 25, 3) := by decide +kernel
theorem dX5_init_84 : decode cX5_init 84 = .ok (.dup, 1) := by decide +kernel
theorem dX5_init_85 : decode cX5_init 85 = .ok (.sipush 384, 3) := by decide +kernel
theorem dX5_init_88 : decode cX5_init 88 = .ok (.invokespecial 31, 3) := by decide +kernel
theorem dX5_init_91 : decode cX5_init 91 = .ok (.putfield 38, 3) := by decide +kernel
theorem dX5_init_94 : decode cX5_init 94 = .ok (.aload_n 0, 1) := by decide +kernel
theorem dX5_init_95 : decode cX5_init 95 = .ok (.iconst 4, 1) := by decide +kernel
theorem dX5_init_96 : decode cX5_init 96 = .ok (.newarray .int, 2) := by decide +kernel
theorem dX5_init_98 : decode cX5_init 98 = .ok (.putfield 41, 3) := by decide +kernel
theorem dX5_init_101 : decode cX5_init 101 = .ok (.aload_n 0, 1) := by decide +kernel
theorem dX5_init_102 : decode cX5_init 102 = .ok (.new 45, 3) := by decide +kernel
theorem dX5_init_105 : decode cX5_init 105 = .ok (.dup, 1) := by decide +kernel
theorem dX5_init_106 : decode cX5_init 106 = .ok (.invokespecial 47, 3) := by decide +kernel
theorem dX5_init_109 : decode cX5_init 109 = .ok (.putfield 48, 3) := by decide +kernel
theorem dX5_init_112 : decode cX5_init 112 = .ok (.aload_n 0, 1) := by decide +kernel
theorem dX5_init_113 : decode cX5_init 113 = .ok (.iconst 2, 1) := by decide +kernel
theorem dX5_init_114 : decode cX5_init 114 = .ok (.invokevirtual 52, 3) := by decide +kernel
theorem dX5_init_117 : decode cX5_init 117 = .ok (.return_, 1) := by decide +kernel
theorem dX5_machines_0 : decode cX5_machines 0 = .ok (.iload_n 1, 1) := by decide +kernel
theorem dX5_machines_1 : decode cX5_machines 1 = .ok (.iconst 1, 1) := by decide +kernel
theorem dX5_machines_2 : decode cX5_machines 2 = .ok (.if_icmp .lt 8, 3) := by decide +kernel
theorem dX5_machines_5 : decode cX5_machines 5 = .ok (.iload_n 1, 1) := by decide +kernel
theorem dX5_machines_6 : decode cX5_machines 6 = .ok (.iconst 4, 1) := by decide +kernel
theorem dX5_machines_7 : decode cX5_machines 7 = .ok (.if_icmp .le 5, 3) := by decide +kernel
theorem dX5_machines_10 : decode cX5_machines 10 = .ok (.iconst (-1), 1) := by decide +kernel
theorem dX5_machines_11 : decode cX5_machines 11 = .ok (.ireturn, 1) := by decide +kernel
theorem dX5_machines_12 : decode cX5_machines 12 = .ok (.aload_n 0, 1) := by decide +kernel
theorem dX5_machines_13 : decode cX5_machines 13 = .ok (.getfield 55, 3) := by decide +kernel
theorem dX5_machines_16 : decode cX5_machines 16 = .ok (.istore_n 2, 1) := by decide +kernel
theorem dX5_machines_17 : decode cX5_machines 17 = .ok (.aload_n 0, 1) := by decide +kernel
theorem dX5_machines_18 : decode cX5_machines 18 = .ok (.iload_n 1, 1) := by decide +kernel
theorem dX5_machines_19 : decode cX5_machines 19 = .ok (.invokevirtual 52, 3) := by decide +kernel
theorem dX5_machines_22 : decode cX5_machines 22 = .ok (.iload_n 2, 1) := by decide +kernel
theorem dX5_machines_23 : decode cX5_machines 23 = .ok (.ireturn, 1) := by decide +kernel
theorem dX5_rules_0 : decode cX5_rules 0 = .ok (.iload_n 1, 1) := by decide +kernel
theorem dX5_rules_1 : decode cX5_rules 1 = .ok (.ifCond .lt 8, 3) := by decide +kernel
theorem dX5_rules_4 : decode cX5_rules 4 = .ok (.iload_n 1, 1) := by decide +kernel
theorem dX5_rules_5 : decode cX5_rules 5 = .ok (.iconst 3, 1) := by decide +kernel
theorem dX5_rules_6 : decode cX5_rules 6 = .ok (.if_icmp .le 5, 3) := by decide +kernel
theorem dX5_rules_9 : decode cX5_rules 9 = .ok (.iconst (-1), 1) := by decide +kernel
theorem dX5_rules_10 : decode cX5_rules 10 = .ok (.ireturn, 1) := by decide +kernel
theorem dX5_rules_11 : decode cX5_rules 11 = .ok (.aload_n 0, 1) := by decide +kernel
theorem dX5_rules_12 : decode cX5_rules 12 = .ok (.getfield 59, 3) := by decide +kernel
theorem dX5_rules_15 : decode cX5_rules 15 = .ok (.istore_n 2, 1) := by decide +kernel
theorem dX5_rules_16 : decode cX5_rules 16 = .ok (.aload_n 0, 1) := by decide +kernel
theorem dX5_rules_17 : decode cX5_rules 17 = .ok (.iload_n 1, 1) := by decide +kernel
theorem dX5_rules_18 : decode cX5_rules 18 = .ok (.putfield 59, 3) := by decide +kernel
theorem dX5_rules_21 : decode cX5_rules 21 = .ok (.iload_n 2, 1) := by decide +kernel
theorem dX5_rules_22 : decode cX5_rules 22 = .ok (.ireturn, 1) := by decide +kernel
theorem dX5_make_0 : decode cX5_make 0 = .ok (.aload_n 0, 1) := by decide +kernel
theorem dX5_make_1 : decode cX5_make 1 = .ok (.iload_n 1, 1) := by decide +kernel
theorem dX5_make_2 : decode cX5_make 2 = .ok (.invokevirtual 62, 3) := by decide +kernel
theorem dX5_make_5 : decode cX5_make 5 = .ok (.ifCond .eq 28, 3) := by decide +kernel
theorem dX5_make_8 : decode cX5_make 8 = .ok (.iload_n 2, 1) := by decide +kernel
theorem dX5_make_9 : decode cX5_make 9 = .ok (.iconst 1, 1) := by decide +kernel
theorem dX5_make_10 : decode cX5_make 10 = .ok (.if_icmp .eq 8, 3) := by decide +kernel
theorem dX5_make_13 : decode cX5_make 13 = .ok (.iload_n 2, 1) := by decide +kernel
theorem dX5_make_14 : decode cX5_make 14 = .ok (.iconst 2, 1) := by decide +kernel
theorem dX5_make_15 : decode cX5_make 15 = .ok (.if_icmp .ne 18, 3) := by decide +kernel
theorem dX5_make_18 : decode cX5_make 18 = .ok (.iload_n 3, 1) := by decide +kernel
theorem dX5_make_19 : decode cX5_make 19 = .ok (.invokestatic 66, 3) := by decide +kernel
theorem dX5_make_22 : decode cX5_make 22 = .ok (.ifCond .eq 11, 3) := by decide +kernel
theorem dX5_make_25 : decode cX5_make 25 = .ok (.iload 4, 2) := by decide +kernel
theorem dX5_make_27 : decode cX5_make 27 = .ok (.invokestatic 69, 3) := by decide +kernel
theorem dX5_make_30 : decode cX5_make 30 = .ok (.ifCond .ne 5, 3) := by decide +kernel
theorem dX5_make_33 : decode cX5_make 33 = .ok (.iconst (-1), 1) := by decide +kernel
theorem dX5_make_34 : decode cX5_make 34 = .ok (.ireturn, 1) := by decide +kernel
theorem dX5_make_35 : decode cX5_make 35 = .ok (.aload_n 0, 1) := by decide +kernel
theorem dX5_make_36 : decode cX5_make 36 = .ok (.iload_n 1, 1) := by decide +kernel
theorem dX5_make_37 : decode cX5_make 37 = .ok (.invokevirtual 72, 3) := by decide +kernel
theorem dX5_make_40 : decode cX5_make 40 = .ok (.aload_n 0, 1) := by decide +kernel
theorem dX5_make_41 : decode cX5_make 41 = .ok (.getfield 21, 3) := by decide +kernel
theorem dX5_make_44 : decode cX5_make 44 = .ok (.iload_n 3, 1) := by decide +kernel
theorem dX5_make_45 : decode cX5_make 45 = .ok (.invokevirtual 75, 3) := by decide +kernel
theorem dX5_make_48 : decode cX5_make 48 = .ok (.ifCond .ne 6, 3) := by decide +kernel
theorem dX5_make_51 : decode cX5_make 51 = .ok (.bipush (-2), 2) := by decide +kernel
theorem dX5_make_53 : decode cX5_make 53 = .ok (.ireturn, 1) := by decide +kernel
theorem dX5_make_54 : decode cX5_make 54 = .ok (.aload_n 0, 1) := by decide +kernel
theorem dX5_make_55 : decode cX5_make 55 = .ok (.getfield 12, 3) := by decide +kernel
theorem dX5_make_58 : decode cX5_make 58 = .ok (.iload_n 1, 1) := by decide +kernel
theorem dX5_make_59 : decode cX5_make 59 = .ok (.invokevirtual 78, 3) := by decide +kernel
theorem dX5_make_62 : decode cX5_make 62 = .ok (.istore 5, 2) := by decide +kernel
theorem dX5_make_64 : decode cX5_make 64 = .ok (.iload 5, 2) := by decide +kernel
theorem dX5_make_66 : decode cX5_make 66 = .ok (.bipush 12, 2) := by decide +kernel
theorem dX5_make_68 : decode cX5_make 68 = .ok (.if_icmp .ge 14, 3) := by decide +kernel
theorem dX5_make_71 : decode cX5_make 71 = .ok (.aload_n 0, 1) := by decide +kernel
theorem dX5_make_72 : decode cX5_make 72 = .ok (.getfield 12, 3) := by decide +kernel
theorem dX5_make_75 : decode cX5_make 75 = .ok (.iload_n 1, 1) := by decide +kernel
theorem dX5_make_76 : decode cX5_make 76 = .ok (.invokevirtual 82, 3) := by decide +kernel
theorem dX5_make_79 : decode cX5_make 79 = .ok (.ifCond .eq 6, 3) := by decide +kernel
theorem dX5_make_82 : decode cX5_make 82 = .ok (.bipush (-3), 2) := by decide +kernel
theorem dX5_make_84 : decode cX5_make 84 = .ok (.ireturn, 1) := by decide +kernel
theorem dX5_make_85 : decode cX5_make 85 = .ok (.aload_n 0, 1) := by decide +kernel
theorem dX5_make_86 : decode cX5_make 86 = .ok (.getfield 12, 3) := by decide +kernel
theorem dX5_make_89 : decode cX5_make 89 = .ok (.iload_n 1, 1) := by decide +kernel
theorem dX5_make_90 : decode cX5_make 90 = .ok (.iconst 0, 1) := by decide +kernel
theorem dX5_make_91 : decode cX5_make 91 = .ok (.iload 5, 2) := by decide +kernel
theorem dX5_make_93 : decode cX5_make 93 = .ok (.invokevirtual 85, 3) := by decide +kernel
theorem dX5_make_96 : decode cX5_make 96 = .ok (.astore 6, 2) := by decide +kernel
theorem dX5_make_98 : decode cX5_make 98 = .ok (.aload 6, 2) := by decide +kernel
theorem dX5_make_100 : decode cX5_make 100 = .ok (.iload_n 2, 1) := by decide +kernel
theorem dX5_make_101 : decode cX5_make 101 = .ok (.putfield 89, 3) := by decide +kernel
theorem dX5_make_104 : decode cX5_make 104 = .ok (.aload 6, 2) := by decide +kernel
theorem dX5_make_106 : decode cX5_make 106 = .ok (.iload_n 3, 1) := by decide +kernel
theorem dX5_make_107 : decode cX5_make 107 = .ok (.putfield 94, 3) := by decide +kernel
theorem dX5_make_110 : decode cX5_make 110 = .ok (.aload 6, 2) := by decide +kernel
theorem dX5_make_112 : decode cX5_make 112 = .ok (.iload 4, 2) := by decide +kernel
theorem dX5_make_114 : decode cX5_make 114 = .ok (.putfield 97, 3) := by decide +kernel
theorem dX5_make_117 : decode cX5_make 117 = .ok (.iload 5, 2) := by decide +kernel
theorem dX5_make_119 : decode cX5_make 119 = .ok (.ireturn, 1) := by decide +kernel
theorem dX5_move_0 : decode cX5_move 0 = .ok (.aload_n 0, 1) := by decide +kernel
theorem dX5_move_1 : decode cX5_move 1 = .ok (.iload_n 1, 1) := by decide +kernel
theorem dX5_move_2 : decode cX5_move 2 = .ok (.invokevirtual 62, 3) := by decide +kernel
theorem dX5_move_5 : decode cX5_move 5 = .ok (.ifCond .eq 25, 3) := by decide +kernel
theorem dX5_move_8 : decode cX5_move 8 = .ok (.iload_n 2, 1) := by decide +kernel
theorem dX5_move_9 : decode cX5_move 9 = .ok (.invokestatic 66, 3) := by decide +kernel
theorem dX5_move_12 : decode cX5_move 12 = .ok (.ifCond .eq 18, 3) := by decide +kernel
theorem dX5_move_15 : decode cX5_move 15 = .ok (.iload_n 3, 1) := by decide +kernel
theorem dX5_move_16 : decode cX5_move 16 = .ok (.invokestatic 66, 3) := by decide +kernel
theorem dX5_move_19 : decode cX5_move 19 = .ok (.ifCond .eq 11, 3) := by decide +kernel
theorem dX5_move_22 : decode cX5_move 22 = .ok (.iload 4, 2) := by decide +kernel
theorem dX5_move_24 : decode cX5_move 24 = .ok (.invokestatic 69, 3) := by decide +kernel
theorem dX5_move_27 : decode cX5_move 27 = .ok (.ifCond .ne 5, 3) := by decide +kernel
theorem dX5_move_30 : decode cX5_move 30 = .ok (.iconst (-1), 1) := by decide +kernel
theorem dX5_move_31 : decode cX5_move 31 = .ok (.ireturn, 1) := by decide +kernel
theorem dX5_move_32 : decode cX5_move 32 = .ok (.aload_n 0, 1) := by decide +kernel
theorem dX5_move_33 : decode cX5_move 33 = .ok (.iload_n 1, 1) := by decide +kernel
theorem dX5_move_34 : decode cX5_move 34 = .ok (.invokevirtual 72, 3) := by decide +kernel
theorem dX5_move_37 : decode cX5_move 37 = .ok (.aload_n 0, 1) := by decide +kernel
theorem dX5_move_38 : decode cX5_move 38 = .ok (.getfield 21, 3) := by decide +kernel
theorem dX5_move_41 : decode cX5_move 41 = .ok (.iload_n 2, 1) := by decide +kernel
theorem dX5_move_42 : decode cX5_move 42 = .ok (.iload_n 3, 1) := by decide +kernel
theorem dX5_move_43 : decode cX5_move 43 = .ok (.invokevirtual 100, 3) := by decide +kernel
theorem dX5_move_46 : decode cX5_move 46 = .ok (.ifCond .ne 6, 3) := by decide +kernel
theorem dX5_move_49 : decode cX5_move 49 = .ok (.bipush (-2), 2) := by decide +kernel
theorem dX5_move_51 : decode cX5_move 51 = .ok (.ireturn, 1) := by decide +kernel
theorem dX5_move_52 : decode cX5_move 52 = .ok (.aload_n 0, 1) := by decide +kernel
theorem dX5_move_53 : decode cX5_move 53 = .ok (.getfield 12, 3) := by decide +kernel
theorem dX5_move_56 : decode cX5_move 56 = .ok (.iload_n 1, 1) := by decide +kernel
theorem dX5_move_57 : decode cX5_move 57 = .ok (.invokevirtual 82, 3) := by decide +kernel
theorem dX5_move_60 : decode cX5_move 60 = .ok (.ifCond .eq 6, 3) := by decide +kernel
theorem dX5_move_63 : decode cX5_move 63 = .ok (.bipush (-3), 2) := by decide +kernel
theorem dX5_move_65 : decode cX5_move 65 = .ok (.ireturn, 1) := by decide +kernel
theorem dX5_move_66 : decode cX5_move 66 = .ok (.aload_n 0, 1) := by decide +kernel
theorem dX5_move_67 : decode cX5_move 67 = .ok (.getfield 12, 3) := by decide +kernel
theorem dX5_move_70 : decode cX5_move 70 = .ok (.iload_n 1, 1) := by decide +kernel
theorem dX5_move_71 : decode cX5_move 71 = .ok (.iconst 1, 1) := by decide +kernel
theorem dX5_move_72 : decode cX5_move 72 = .ok (.iload_n 2, 1) := by decide +kernel
theorem dX5_move_73 : decode cX5_move 73 = .ok (.invokevirtual 85, 3) := by decide +kernel
theorem dX5_move_76 : decode cX5_move 76 = .ok (.astore 5, 2) := by decide +kernel
theorem dX5_move_78 : decode cX5_move 78 = .ok (.aload 5, 2) := by decide +kernel
theorem dX5_move_80 : decode cX5_move 80 = .ok (.iload_n 3, 1) := by decide +kernel
theorem dX5_move_81 : decode cX5_move 81 = .ok (.putfield 94, 3) := by decide +kernel
theorem dX5_move_84 : decode cX5_move 84 = .ok (.aload 5, 2) := by decide +kernel
theorem dX5_move_86 : decode cX5_move 86 = .ok (.iload 4, 2) := by decide +kernel
theorem dX5_move_88 : decode cX5_move 88 = .ok (.putfield 97, 3) := by decide +kernel
theorem dX5_move_91 : decode cX5_move 91 = .ok (.aload 5, 2) := by decide +kernel
theorem dX5_move_93 : decode cX5_move 93 = .ok (.getfield 104, 3) := by decide +kernel
theorem dX5_move_96 : decode cX5_move 96 = .ok (.ireturn, 1) := by decide +kernel
theorem dX5_gone_0 : decode cX5_gone 0 = .ok (.aload_n 0, 1) := by decide +kernel
theorem dX5_gone_1 : decode cX5_gone 1 = .ok (.iload_n 1, 1) := by decide +kernel
theorem dX5_gone_2 : decode cX5_gone 2 = .ok (.invokevirtual 62, 3) := by decide +kernel
theorem dX5_gone_5 : decode cX5_gone 5 = .ok (.ifCond .eq 10, 3) := by decide +kernel
theorem dX5_gone_8 : decode cX5_gone 8 = .ok (.iload_n 2, 1) := by decide +kernel
theorem dX5_gone_9 : decode cX5_gone 9 = .ok (.invokestatic 66, 3) := by decide +kernel
theorem dX5_gone_12 : decode cX5_gone 12 = .ok (.ifCond .ne 5, 3) := by decide +kernel
theorem dX5_gone_15 : decode cX5_gone 15 = .ok (.iconst (-1), 1) := by decide +kernel
theorem dX5_gone_16 : decode cX5_gone 16 = .ok (.ireturn, 1) := by decide +kernel
theorem dX5_gone_17 : decode cX5_gone 17 = .ok (.aload_n 0, 1) := by decide +kernel
theorem dX5_gone_18 : decode cX5_gone 18 = .ok (.iload_n 1, 1) := by decide +kernel
theorem dX5_gone_19 : decode cX5_gone 19 = .ok (.invokevirtual 72, 3) := by decide +kernel
theorem dX5_gone_22 : decode cX5_gone 22 = .ok (.iload_n 2, 1) := by decide +kernel
theorem dX5_gone_23 : decode cX5_gone 23 = .ok (.ifCond .eq 14, 3) := by decide +kernel
theorem dX5_gone_26 : decode cX5_gone 26 = .ok (.aload_n 0, 1) := by decide +kernel
theorem dX5_gone_27 : decode cX5_gone 27 = .ok (.getfield 21, 3) := by decide +kernel
theorem dX5_gone_30 : decode cX5_gone 30 = .ok (.iload_n 2, 1) := by decide +kernel
theorem dX5_gone_31 : decode cX5_gone 31 = .ok (.invokevirtual 107, 3) := by decide +kernel
theorem dX5_gone_34 : decode cX5_gone 34 = .ok (.ifCond .ne 6, 3) := by decide +kernel
theorem dX5_gone_37 : decode cX5_gone 37 = .ok (.bipush (-2), 2) := by decide +kernel
theorem dX5_gone_39 : decode cX5_gone 39 = .ok (.ireturn, 1) := by decide +kernel
theorem dX5_gone_40 : decode cX5_gone 40 = .ok (.aload_n 0, 1) := by decide +kernel
theorem dX5_gone_41 : decode cX5_gone 41 = .ok (.getfield 12, 3) := by decide +kernel
theorem dX5_gone_44 : decode cX5_gone 44 = .ok (.iload_n 1, 1) := by decide +kernel
theorem dX5_gone_45 : decode cX5_gone 45 = .ok (.invokevirtual 82, 3) := by decide +kernel
theorem dX5_gone_48 : decode cX5_gone 48 = .ok (.ifCond .eq 6, 3) := by decide +kernel
theorem dX5_gone_51 : decode cX5_gone 51 = .ok (.bipush (-3), 2) := by decide +kernel
theorem dX5_gone_53 : decode cX5_gone 53 = .ok (.ireturn, 1) := by decide +kernel
theorem dX5_gone_54 : decode cX5_gone 54 = .ok (.aload_n 0, 1) := by decide +kernel
theorem dX5_gone_55 : decode cX5_gone 55 = .ok (.getfield 12, 3) := by decide +kernel
theorem dX5_gone_58 : decode cX5_gone 58 = .ok (.iload_n 1, 1) := by decide +kernel
theorem dX5_gone_59 : decode cX5_gone 59 = .ok (.iconst 2, 1) := by decide +kernel
theorem dX5_gone_60 : decode cX5_gone 60 = .ok (.iload_n 2, 1) := by decide +kernel
theorem dX5_gone_61 : decode cX5_gone 61 = .ok (.invokevirtual 85, 3) := by decide +kernel
theorem dX5_gone_64 : decode cX5_gone 64 = .ok (.getfield 104, 3) := by decide +kernel
theorem dX5_gone_67 : decode cX5_gone 67 = .ok (.ireturn, 1) := by decide +kernel
theorem dX5_write_0 : decode cX5_write 0 = .ok (.aload_n 0, 1) := by decide +kernel
theorem dX5_write_1 : decode cX5_write 1 = .ok (.iload_n 1, 1) := by decide +kernel
theorem dX5_write_2 : decode cX5_write 2 = .ok (.invokevirtual 62, 3) := by decide +kernel
theorem dX5_write_5 : decode cX5_write 5 = .ok (.ifCond .eq 22, 3) := by decide +kernel
theorem dX5_write_8 : decode cX5_write 8 = .ok (.iload_n 2, 1) := by decide +kernel
theorem dX5_write_9 : decode cX5_write 9 = .ok (.invokestatic 66, 3) := by decide +kernel
theorem dX5_write_12 : decode cX5_write 12 = .ok (.ifCond .eq 15, 3) := by decide +kernel
theorem dX5_write_15 : decode cX5_write 15 = .ok (.iload 5, 2) := by decide +kernel
theorem dX5_write_17 : decode cX5_write 17 = .ok (.ifCond .lt 10, 3) := by decide +kernel
theorem dX5_write_20 : decode cX5_write 20 = .ok (.iload 5, 2) := by decide +kernel
theorem dX5_write_22 : decode cX5_write 22 = .ok (.bipush 8, 2) := by decide +kernel
theorem dX5_write_24 : decode cX5_write 24 = .ok (.if_icmp .le 5, 3) := by decide +kernel
theorem dX5_write_27 : decode cX5_write 27 = .ok (.iconst (-1), 1) := by decide +kernel
theorem dX5_write_28 : decode cX5_write 28 = .ok (.ireturn, 1) := by decide +kernel
theorem dX5_write_29 : decode cX5_write 29 = .ok (.aload_n 0, 1) := by decide +kernel
theorem dX5_write_30 : decode cX5_write 30 = .ok (.iload_n 1, 1) := by decide +kernel
theorem dX5_write_31 : decode cX5_write 31 = .ok (.invokevirtual 72, 3) := by decide +kernel
theorem dX5_write_34 : decode cX5_write 34 = .ok (.aload_n 0, 1) := by decide +kernel
theorem dX5_write_35 : decode cX5_write 35 = .ok (.getfield 21, 3) := by decide +kernel
theorem dX5_write_38 : decode cX5_write 38 = .ok (.iload_n 2, 1) := by decide +kernel
theorem dX5_write_39 : decode cX5_write 39 = .ok (.invokevirtual 110, 3) := by decide +kernel
theorem dX5_write_42 : decode cX5_write 42 = .ok (.ifCond .ne 6, 3) := by decide +kernel
theorem dX5_write_45 : decode cX5_write 45 = .ok (.bipush (-2), 2) := by decide +kernel
theorem dX5_write_47 : decode cX5_write 47 = .ok (.ireturn, 1) := by decide +kernel
theorem dX5_write_48 : decode cX5_write 48 = .ok (.aload_n 0, 1) := by decide +kernel
theorem dX5_write_49 : decode cX5_write 49 = .ok (.getfield 34, 3) := by decide +kernel
theorem dX5_write_52 : decode cX5_write 52 = .ok (.invokevirtual 113, 3) := by decide +kernel
theorem dX5_write_55 : decode cX5_write 55 = .ok (.aload_n 0, 1) := by decide +kernel
theorem dX5_write_56 : decode cX5_write 56 = .ok (.getfield 34, 3) := by decide +kernel
theorem dX5_write_59 : decode cX5_write 59 = .ok (.lload_n 3, 1) := by decide +kernel
theorem dX5_write_60 : decode cX5_write 60 = .ok (.iload 5, 2) := by decide +kernel
theorem dX5_write_62 : decode cX5_write 62 = .ok (.invokevirtual 116, 3) := by decide +kernel
theorem dX5_write_65 : decode cX5_write 65 = .ok (.aload_n 0, 1) := by decide +kernel
theorem dX5_write_66 : decode cX5_write 66 = .ok (.iload_n 1, 1) := by decide +kernel
theorem dX5_write_67 : decode cX5_write 67 = .ok (.invokevirtual 120, 3) := by decide +kernel
theorem dX5_write_70 : decode cX5_write 70 = .ok (.ifCond .ne 6, 3) := by decide +kernel
theorem dX5_write_73 : decode cX5_write 73 = .ok (.bipush (-2), 2) := by decide +kernel
theorem dX5_write_75 : decode cX5_write 75 = .ok (.ireturn, 1) := by decide +kernel
theorem dX5_write_76 : decode cX5_write 76 = .ok (.aload_n 0, 1) := by decide +kernel
theorem dX5_write_77 : decode cX5_write 77 = .ok (.getfield 12, 3) := by decide +kernel
theorem dX5_write_80 : decode cX5_write 80 = .ok (.iload_n 1, 1) := by decide +kernel
theorem dX5_write_81 : decode cX5_write 81 = .ok (.invokevirtual 82, 3) := by decide +kernel
theorem dX5_write_84 : decode cX5_write 84 = .ok (.ifCond .eq 6, 3) := by decide +kernel
theorem dX5_write_87 : decode cX5_write 87 = .ok (.bipush (-3), 2) := by decide +kernel
theorem dX5_write_89 : decode cX5_write 89 = .ok (.ireturn, 1) := by decide +kernel
theorem dX5_write_90 : decode cX5_write 90 = .ok (.aload_n 0, 1) := by decide +kernel
theorem dX5_write_91 : decode cX5_write 91 = .ok (.getfield 12, 3) := by decide +kernel
theorem dX5_write_94 : decode cX5_write 94 = .ok (.iload_n 1, 1) := by decide +kernel
theorem dX5_write_95 : decode cX5_write 95 = .ok (.iconst 3, 1) := by decide +kernel
theorem dX5_write_96 : decode cX5_write 96 = .ok (.iload_n 2, 1) := by decide +kernel
theorem dX5_write_97 : decode cX5_write 97 = .ok (.invokevirtual 85, 3) := by decide +kernel
theorem dX5_write_100 : decode cX5_write 100 = .ok (.astore 6, 2) := by decide +kernel
theorem dX5_write_102 : decode cX5_write 102 = .ok (.aload 6, 2) := by decide +kernel
theorem dX5_write_104 : decode cX5_write 104 = .ok (.lload_n 3, 1) := by decide +kernel
theorem dX5_write_105 : decode cX5_write 105 = .ok (.putfield 123, 3) := by decide +kernel
theorem dX5_write_108 : decode cX5_write 108 = .ok (.aload 6, 2) := by decide +kernel
theorem dX5_write_110 : decode cX5_write 110 = .ok (.iload 5, 2) := by decide +kernel
theorem dX5_write_112 : decode cX5_write 112 = .ok (.putfield 127, 3) := by decide +kernel
theorem dX5_write_115 : decode cX5_write 115 = .ok (.aload_n 0, 1) := by decide +kernel
theorem dX5_write_116 : decode cX5_write 116 = .ok (.getfield 27, 3) := by decide +kernel
theorem dX5_write_119 : decode cX5_write 119 = .ok (.iload_n 1, 1) := by decide +kernel
theorem dX5_write_120 : decode cX5_write 120 = .ok (.aaload, 1) := by decide +kernel
theorem dX5_write_121 : decode cX5_write 121 = .ok (.aload_n 0, 1) := by decide +kernel
theorem dX5_write_122 : decode cX5_write 122 = .ok (.getfield 34, 3) := by decide +kernel
theorem dX5_write_125 : decode cX5_write 125 = .ok (.invokevirtual 130, 3) := by decide +kernel
theorem dX5_write_128 : decode cX5_write 128 = .ok (.aload 6, 2) := by decide +kernel
theorem dX5_write_130 : decode cX5_write 130 = .ok (.getfield 104, 3) := by decide +kernel
theorem dX5_write_133 : decode cX5_write 133 = .ok (.ireturn, 1) := by decide +kernel
theorem dX5_send_0 : decode cX5_send 0 = .ok (.aload_n 0, 1) := by decide +kernel
theorem dX5_send_1 : decode cX5_send 1 = .ok (.iload_n 1, 1) := by decide +kernel
theorem dX5_send_2 : decode cX5_send 2 = .ok (.invokevirtual 62, 3) := by decide +kernel
theorem dX5_send_5 : decode cX5_send 5 = .ok (.ifCond .eq 16, 3) := by decide +kernel
theorem dX5_send_8 : decode cX5_send 8 = .ok (.aload_n 0, 1) := by decide +kernel
theorem dX5_send_9 : decode cX5_send 9 = .ok (.iload_n 2, 1) := by decide +kernel
theorem dX5_send_10 : decode cX5_send 10 = .ok (.invokevirtual 62, 3) := by decide +kernel
theorem dX5_send_13 : decode cX5_send 13 = .ok (.ifCond .eq 8, 3) := by decide +kernel
theorem dX5_send_16 : decode cX5_send 16 = .ok (.iload_n 1, 1) := by decide +kernel
theorem dX5_send_17 : decode cX5_send 17 = .ok (.iload_n 2, 1) := by decide +kernel
theorem dX5_send_18 : decode cX5_send 18 = .ok (.if_icmp .ne 5, 3) := by decide +kernel
theorem dX5_send_21 : decode cX5_send 21 = .ok (.iconst (-1), 1) := by decide +kernel
theorem dX5_send_22 : decode cX5_send 22 = .ok (.ireturn, 1) := by decide +kernel
theorem dX5_send_23 : decode cX5_send 23 = .ok (.aload_n 0, 1) := by decide +kernel
theorem dX5_send_24 : decode cX5_send 24 = .ok (.getfield 12, 3) := by decide +kernel
theorem dX5_send_27 : decode cX5_send 27 = .ok (.iload_n 1, 1) := by decide +kernel
theorem dX5_send_28 : decode cX5_send 28 = .ok (.iload_n 2, 1) := by decide +kernel
theorem dX5_send_29 : decode cX5_send 29 = .ok (.bipush 80, 2) := by decide +kernel
theorem dX5_send_31 : decode cX5_send 31 = .ok (.invokevirtual 134, 3) := by decide +kernel
theorem dX5_send_34 : decode cX5_send 34 = .ok (.ireturn, 1) := by decide +kernel
theorem dX5_sendSome_0 : decode cX5_sendSome 0 = .ok (.aload_n 0, 1) := by decide +kernel
theorem dX5_sendSome_1 : decode cX5_sendSome 1 = .ok (.iload_n 1, 1) := by decide +kernel
theorem dX5_sendSome_2 : decode cX5_sendSome 2 = .ok (.invokevirtual 62, 3) := by decide +kernel
theorem dX5_sendSome_5 : decode cX5_sendSome 5 = .ok (.ifCond .eq 27, 3) := by decide +kernel
theorem dX5_sendSome_8 : decode cX5_sendSome 8 = .ok (.aload_n 0, 1) := by decide +kernel
theorem dX5_sendSome_9 : decode cX5_sendSome 9 = .ok (.iload_n 2, 1) := by decide +kernel
theorem dX5_sendSome_10 : decode cX5_sendSome 10 = .ok (.invokevirtual 62, 3) := by decide +kernel
theorem dX5_sendSome_13 : decode cX5_sendSome 13 = .ok (.ifCond .eq 19, 3) := by decide +kernel
theorem dX5_sendSome_16 : decode cX5_sendSome 16 = .ok (.iload_n 1, 1) := by decide +kernel
theorem dX5_sendSome_17 : decode cX5_sendSome 17 = .ok (.iload_n 2, 1) := by decide +kernel
theorem dX5_sendSome_18 : decode cX5_sendSome 18 = .ok (.if_icmp .eq 14, 3) := by decide +kernel
theorem dX5_sendSome_21 : decode cX5_sendSome 21 = .ok (.iload_n 3, 1) := by decide +kernel
theorem dX5_sendSome_22 : decode cX5_sendSome 22 = .ok (.iconst 1, 1) := by decide +kernel
theorem dX5_sendSome_23 : decode cX5_sendSome 23 = .ok (.if_icmp .lt 9, 3) := by decide +kernel
theorem dX5_sendSome_26 : decode cX5_sendSome 26 = .ok (.iload_n 3, 1) := by decide +kernel
theorem dX5_sendSome_27 : decode cX5_sendSome 27 = .ok (.bipush 20, 2) := by decide +kernel
theorem dX5_sendSome_29 : decode cX5_sendSome 29 = .ok (.if_icmp .le 5, 3) := by decide +kernel
theorem dX5_sendSome_32 : decode cX5_sendSome 32 = .ok (.iconst (-1), 1) := by decide +kernel
theorem dX5_sendSome_33 : decode cX5_sendSome 33 = .ok (.ireturn, 1) := by decide +kernel
theorem dX5_sendSome_34 : decode cX5_sendSome 34 = .ok (.aload_n 0, 1) := by decide +kernel
theorem dX5_sendSome_35 : decode cX5_sendSome 35 = .ok (.getfield 12, 3) := by decide +kernel
theorem dX5_sendSome_38 : decode cX5_sendSome 38 = .ok (.iload_n 1, 1) := by decide +kernel
theorem dX5_sendSome_39 : decode cX5_sendSome 39 = .ok (.iload_n 2, 1) := by decide +kernel
theorem dX5_sendSome_40 : decode cX5_sendSome 40 = .ok (.iload_n 3, 1) := by decide +kernel
theorem dX5_sendSome_41 : decode cX5_sendSome 41 = .ok (.invokevirtual 134, 3) := by decide +kernel
theorem dX5_sendSome_44 : decode cX5_sendSome 44 = .ok (.ireturn, 1) := by decide +kernel
theorem dX5_change_0 : decode cX5_change 0 = .ok (.aload_n 0, 1) := by decide +kernel
theorem dX5_change_1 : decode cX5_change 1 = .ok (.iload_n 1, 1) := by decide +kernel
theorem dX5_change_2 : decode cX5_change 2 = .ok (.invokevirtual 62, 3) := by decide +kernel
theorem dX5_change_5 : decode cX5_change 5 = .ok (.ifCond .eq 20, 3) := by decide +kernel
theorem dX5_change_8 : decode cX5_change 8 = .ok (.iload_n 2, 1) := by decide +kernel
theorem dX5_change_9 : decode cX5_change 9 = .ok (.ifCond .lt 16, 3) := by decide +kernel
theorem dX5_change_12 : decode cX5_change 12 = .ok (.iload_n 2, 1) := by decide +kernel
theorem dX5_change_13 : decode cX5_change 13 = .ok (.aload_n 0, 1) := by decide +kernel
theorem dX5_change_14 : decode cX5_change 14 = .ok (.getfield 12, 3) := by decide +kernel
theorem dX5_change_17 : decode cX5_change 17 = .ok (.getfield 138, 3) := by decide +kernel
theorem dX5_change_20 : decode cX5_change 20 = .ok (.iload_n 1, 1) := by decide +kernel
theorem dX5_change_21 : decode cX5_change 21 = .ok (.iaload, 1) := by decide +kernel
theorem dX5_change_22 : decode cX5_change 22 = .ok (.if_icmp .lt 5, 3) := by decide +kernel
theorem dX5_change_25 : decode cX5_change 25 = .ok (.iconst (-1), 1) := by decide +kernel
theorem dX5_change_26 : decode cX5_change 26 = .ok (.ireturn, 1) := by decide +kernel
theorem dX5_change_27 : decode cX5_change 27 = .ok (.aload_n 0, 1) := by decide +kernel
theorem dX5_change_28 : decode cX5_change 28 = .ok (.getfield 12, 3) := by decide +kernel
theorem dX5_change_31 : decode cX5_change 31 = .ok (.iload_n 1, 1) := by decide +kernel
theorem dX5_change_32 : decode cX5_change 32 = .ok (.iload_n 2, 1) := by decide +kernel
theorem dX5_change_33 : decode cX5_change 33 = .ok (.invokevirtual 141, 3) := by decide +kernel
theorem dX5_change_36 : decode cX5_change 36 = .ok (.astore 4, 2) := by decide +kernel
theorem dX5_change_38 : decode cX5_change 38 = .ok (.iload_n 3, 1) := by decide +kernel
theorem dX5_change_39 : decode cX5_change 39 = .ok (.tableswitch 85 0 5 #[37, 43, 49, 55, 61, 67], 37) := by decide +kernel
theorem dX5_change_76 : decode cX5_change 76 = .ok (.aload 4, 2) := by decide +kernel
theorem dX5_change_78 : decode cX5_change 78 = .ok (.getfield 145, 3) := by decide +kernel
theorem dX5_change_81 : decode cX5_change 81 = .ok (.ireturn, 1) := by decide +kernel
theorem dX5_change_82 : decode cX5_change 82 = .ok (.aload 4, 2) := by decide +kernel
theorem dX5_change_84 : decode cX5_change 84 = .ok (.getfield 148, 3) := by decide +kernel
theorem dX5_change_87 : decode cX5_change 87 = .ok (.ireturn, 1) := by decide +kernel
theorem dX5_change_88 : decode cX5_change 88 = .ok (.aload 4, 2) := by decide +kernel
theorem dX5_change_90 : decode cX5_change 90 = .ok (.getfield 151, 3) := by decide +kernel
theorem dX5_change_93 : decode cX5_change 93 = .ok (.ireturn, 1) := by decide +kernel
theorem dX5_change_94 : decode cX5_change 94 = .ok (.aload 4, 2) := by decide +kernel
theorem dX5_change_96 : decode cX5_change 96 = .ok (.invokevirtual 154, 3) := by decide +kernel
theorem dX5_change_99 : decode cX5_change 99 = .ok (.ireturn, 1) := by decide +kernel
theorem dX5_change_100 : decode cX5_change 100 = .ok (.aload 4, 2) := by decide +kernel
theorem dX5_change_102 : decode cX5_change 102 = .ok (.getfield 158, 3) := by decide +kernel
theorem dX5_change_105 : decode cX5_change 105 = .ok (.ireturn, 1) := by decide +kernel
theorem dX5_change_106 : decode cX5_change 106 = .ok (.aload_n 0, 1) := by decide +kernel
theorem dX5_change_107 : decode cX5_change 107 = .ok (.getfield 12, 3) := by decide +kernel
theorem dX5_change_110 : decode cX5_change 110 = .ok (.aload 4, 2) := by decide +kernel
theorem dX5_change_112 : decode cX5_change 112 = .ok (.invokevirtual 161, 3) := by decide +kernel
theorem dX5_change_115 : decode cX5_change 115 = .ok (.ifCond .eq 7, 3) := by decide +kernel
theorem dX5_change_118 : decode cX5_change 118 = .ok (.iconst 1, 1) := by decide +kernel
theorem dX5_change_119 : decode cX5_change 119 = .ok (.goto 4, 3) := by decide +kernel
theorem dX5_change_122 : decode cX5_change 122 = .ok (.iconst 0, 1) := by decide +kernel
theorem dX5_change_123 : decode cX5_change 123 = .ok (.ireturn, 1) := by decide +kernel
theorem dX5_change_124 : decode cX5_change 124 = .ok (.iconst (-1), 1) := by decide +kernel
theorem dX5_change_125 : decode cX5_change 125 = .ok (.ireturn, 1) := by decide +kernel
theorem dX5_thing_0 : decode cX5_thing 0 = .ok (.aload_n 0, 1) := by decide +kernel
theorem dX5_thing_1 : decode cX5_thing 1 = .ok (.iload_n 1, 1) := by decide +kernel
theorem dX5_thing_2 : decode cX5_thing 2 = .ok (.invokevirtual 62, 3) := by decide +kernel
theorem dX5_thing_5 : decode cX5_thing 5 = .ok (.ifCond .eq 29, 3) := by decide +kernel
theorem dX5_thing_8 : decode cX5_thing 8 = .ok (.iload_n 2, 1) := by decide +kernel
theorem dX5_thing_9 : decode cX5_thing 9 = .ok (.invokestatic 66, 3) := by decide +kernel
theorem dX5_thing_12 : decode cX5_thing 12 = .ok (.ifCond .eq 22, 3) := by decide +kernel
theorem dX5_thing_15 : decode cX5_thing 15 = .ok (.aload_n 0, 1) := by decide +kernel
theorem dX5_thing_16 : decode cX5_thing 16 = .ok (.iload_n 3, 1) := by decide +kernel
theorem dX5_thing_17 : decode cX5_thing 17 = .ok (.invokevirtual 165, 3) := by decide +kernel
theorem dX5_thing_20 : decode cX5_thing 20 = .ok (.ifCond .eq 14, 3) := by decide +kernel
theorem dX5_thing_23 : decode cX5_thing 23 = .ok (.iload 4, 2) := by decide +kernel
theorem dX5_thing_25 : decode cX5_thing 25 = .ok (.ifCond .lt 9, 3) := by decide +kernel
theorem dX5_thing_28 : decode cX5_thing 28 = .ok (.iload 4, 2) := by decide +kernel
theorem dX5_thing_30 : decode cX5_thing 30 = .ok (.iconst 3, 1) := by decide +kernel
theorem dX5_thing_31 : decode cX5_thing 31 = .ok (.if_icmp .le 5, 3) := by decide +kernel
theorem dX5_thing_34 : decode cX5_thing 34 = .ok (.iconst (-1), 1) := by decide +kernel
theorem dX5_thing_35 : decode cX5_thing 35 = .ok (.ireturn, 1) := by decide +kernel
theorem dX5_thing_36 : decode cX5_thing 36 = .ok (.aload_n 0, 1) := by decide +kernel
theorem dX5_thing_37 : decode cX5_thing 37 = .ok (.getfield 21, 3) := by decide +kernel
theorem dX5_thing_40 : decode cX5_thing 40 = .ok (.iload_n 1, 1) := by decide +kernel
theorem dX5_thing_41 : decode cX5_thing 41 = .ok (.iload_n 3, 1) := by decide +kernel
theorem dX5_thing_42 : decode cX5_thing 42 = .ok (.aload_n 0, 1) := by decide +kernel
theorem dX5_thing_43 : decode cX5_thing 43 = .ok (.getfield 59, 3) := by decide +kernel
theorem dX5_thing_46 : decode cX5_thing 46 = .ok (.invokevirtual 168, 3) := by decide +kernel
theorem dX5_thing_49 : decode cX5_thing 49 = .ok (.aload_n 0, 1) := by decide +kernel
theorem dX5_thing_50 : decode cX5_thing 50 = .ok (.getfield 21, 3) := by decide +kernel
theorem dX5_thing_53 : decode cX5_thing 53 = .ok (.iload_n 2, 1) := by decide +kernel
theorem dX5_thing_54 : decode cX5_thing 54 = .ok (.invokevirtual 107, 3) := by decide +kernel
theorem dX5_thing_57 : decode cX5_thing 57 = .ok (.ifCond .ne 16, 3) := by decide +kernel
theorem dX5_thing_60 : decode cX5_thing 60 = .ok (.iload 4, 2) := by decide +kernel
theorem dX5_thing_62 : decode cX5_thing 62 = .ok (.ifCond .ne 8, 3) := by decide +kernel
theorem dX5_thing_65 : decode cX5_thing 65 = .ok (.bipush (-9), 2) := by decide +kernel
theorem dX5_thing_67 : decode cX5_thing 67 = .ok (.goto 5, 3) := by decide +kernel
theorem dX5_thing_70 : decode cX5_thing 70 = .ok (.bipush (-2), 2) := by decide +kernel
theorem dX5_thing_72 : decode cX5_thing 72 = .ok (.ireturn, 1) := by decide +kernel
theorem dX5_thing_73 : decode cX5_thing 73 = .ok (.iload 4, 2) := by decide +kernel
theorem dX5_thing_75 : decode cX5_thing 75 = .ok (.ifCond .ne 30, 3) := by decide +kernel
theorem dX5_thing_78 : decode cX5_thing 78 = .ok (.aload_n 0, 1) := by decide +kernel
theorem dX5_thing_79 : decode cX5_thing 79 = .ok (.getfield 21, 3) := by decide +kernel
theorem dX5_thing_82 : decode cX5_thing 82 = .ok (.getfield 172, 3) := by decide +kernel
theorem dX5_thing_85 : decode cX5_thing 85 = .ok (.iload_n 2, 1) := by decide +kernel
theorem dX5_thing_86 : decode cX5_thing 86 = .ok (.iaload, 1) := by decide +kernel
theorem dX5_thing_87 : decode cX5_thing 87 = .ok (.iconst 1, 1) := by decide +kernel
theorem dX5_thing_88 : decode cX5_thing 88 = .ok (.if_icmp .le 7, 3) := by decide +kernel
theorem dX5_thing_91 : decode cX5_thing 91 = .ok (.iconst 5, 1) := by decide +kernel
theorem dX5_thing_92 : decode cX5_thing 92 = .ok (.goto 12, 3) := by decide +kernel
theorem dX5_thing_95 : decode cX5_thing 95 = .ok (.aload_n 0, 1) := by decide +kernel
theorem dX5_thing_96 : decode cX5_thing 96 = .ok (.getfield 21, 3) := by decide +kernel
theorem dX5_thing_99 : decode cX5_thing 99 = .ok (.getfield 175, 3) := by decide +kernel
theorem dX5_thing_102 : decode cX5_thing 102 = .ok (.iload_n 2, 1) := by decide +kernel
theorem dX5_thing_103 : decode cX5_thing 103 = .ok (.iaload, 1) := by decide +kernel
theorem dX5_thing_104 : decode cX5_thing 104 = .ok (.ireturn, 1) := by decide +kernel
theorem dX5_thing_105 : decode cX5_thing 105 = .ok (.iload 4, 2) := by decide +kernel
theorem dX5_thing_107 : decode cX5_thing 107 = .ok (.iconst 1, 1) := by decide +kernel
theorem dX5_thing_108 : decode cX5_thing 108 = .ok (.if_icmp .ne 22, 3) := by decide +kernel
theorem dX5_thing_111 : decode cX5_thing 111 = .ok (.iload_n 2, 1) := by decide +kernel
theorem dX5_thing_112 : decode cX5_thing 112 = .ok (.ifCond .ne 8, 3) := by decide +kernel
theorem dX5_thing_115 : decode cX5_thing 115 = .ok (.bipush (-9), 2) := by decide +kernel
theorem dX5_thing_117 : decode cX5_thing 117 = .ok (.goto 12, 3) := by decide +kernel
theorem dX5_thing_120 : decode cX5_thing 120 = .ok (.aload_n 0, 1) := by decide +kernel
theorem dX5_thing_121 : decode cX5_thing 121 = .ok (.getfield 21, 3) := by decide +kernel
theorem dX5_thing_124 : decode cX5_thing 124 = .ok (.getfield 177, 3) := by decide +kernel
theorem dX5_thing_127 : decode cX5_thing 127 = .ok (.iload_n 2, 1) := by decide +kernel
theorem dX5_thing_128 : decode cX5_thing 128 = .ok (.iaload, 1) := by decide +kernel
theorem dX5_thing_129 : decode cX5_thing 129 = .ok (.ireturn, 1) := by decide +kernel
theorem dX5_thing_130 : decode cX5_thing 130 = .ok (.iload 4, 2) := by decide +kernel
theorem dX5_thing_132 : decode cX5_thing 132 = .ok (.iconst 2, 1) := by decide +kernel
theorem dX5_thing_133 : decode cX5_thing 133 = .ok (.if_icmp .ne 15, 3) := by decide +kernel
theorem dX5_thing_136 : decode cX5_thing 136 = .ok (.aload_n 0, 1) := by decide +kernel
theorem dX5_thing_137 : decode cX5_thing 137 = .ok (.getfield 21, 3) := by decide +kernel
theorem dX5_thing_140 : decode cX5_thing 140 = .ok (.getfield 179, 3) := by decide +kernel
theorem dX5_thing_143 : decode cX5_thing 143 = .ok (.iload_n 2, 1) := by decide +kernel
theorem dX5_thing_144 : decode cX5_thing 144 = .ok (.iaload, 1) := by decide +kernel
theorem dX5_thing_145 : decode cX5_thing 145 = .ok (.goto 12, 3) := by decide +kernel
theorem dX5_thing_148 : decode cX5_thing 148 = .ok (.aload_n 0, 1) := by decide +kernel
theorem dX5_thing_149 : decode cX5_thing 149 = .ok (.getfield 21, 3) := by decide +kernel
theorem dX5_thing_152 : decode cX5_thing 152 = .ok (.getfield 172, 3) := by decide +kernel
theorem dX5_thing_155 : decode cX5_thing 155 = .ok (.iload_n 2, 1) := by decide +kernel
theorem dX5_thing_156 : decode cX5_thing 156 = .ok (.iaload, 1) := by decide +kernel
theorem dX5_thing_157 : decode cX5_thing 157 = .ok (.ireturn, 1) := by decide +kernel
theorem dX5_bytes_0 : decode cX5_bytes 0 = .ok (.aload_n 0, 1) := by decide +kernel
theorem dX5_bytes_1 : decode cX5_bytes 1 = .ok (.iload_n 1, 1) := by decide +kernel
theorem dX5_bytes_2 : decode cX5_bytes 2 = .ok (.invokevirtual 62, 3) := by decide +kernel
theorem dX5_bytes_5 : decode cX5_bytes 5 = .ok (.ifCond .eq 10, 3) := by decide +kernel
theorem dX5_bytes_8 : decode cX5_bytes 8 = .ok (.iload_n 2, 1) := by decide +kernel
theorem dX5_bytes_9 : decode cX5_bytes 9 = .ok (.invokestatic 66, 3) := by decide +kernel
theorem dX5_bytes_12 : decode cX5_bytes 12 = .ok (.ifCond .ne 5, 3) := by decide +kernel
theorem dX5_bytes_15 : decode cX5_bytes 15 = .ok (.iconst (-1), 1) := by decide +kernel
theorem dX5_bytes_16 : decode cX5_bytes 16 = .ok (.ireturn, 1) := by decide +kernel
theorem dX5_bytes_17 : decode cX5_bytes 17 = .ok (.aload_n 0, 1) := by decide +kernel
theorem dX5_bytes_18 : decode cX5_bytes 18 = .ok (.iload_n 1, 1) := by decide +kernel
theorem dX5_bytes_19 : decode cX5_bytes 19 = .ok (.invokevirtual 72, 3) := by decide +kernel
theorem dX5_bytes_22 : decode cX5_bytes 22 = .ok (.aload_n 0, 1) := by decide +kernel
theorem dX5_bytes_23 : decode cX5_bytes 23 = .ok (.getfield 21, 3) := by decide +kernel
theorem dX5_bytes_26 : decode cX5_bytes 26 = .ok (.iload_n 2, 1) := by decide +kernel
theorem dX5_bytes_27 : decode cX5_bytes 27 = .ok (.invokevirtual 110, 3) := by decide +kernel
theorem dX5_bytes_30 : decode cX5_bytes 30 = .ok (.ifCond .ne 6, 3) := by decide +kernel
theorem dX5_bytes_33 : decode cX5_bytes 33 = .ok (.bipush (-2), 2) := by decide +kernel
theorem dX5_bytes_35 : decode cX5_bytes 35 = .ok (.ireturn, 1) := by decide +kernel
theorem dX5_bytes_36 : decode cX5_bytes 36 = .ok (.iload_n 3, 1) := by decide +kernel
theorem dX5_bytes_37 : decode cX5_bytes 37 = .ok (.ifCond .lt 16, 3) := by decide +kernel
theorem dX5_bytes_40 : decode cX5_bytes 40 = .ok (.iload_n 3, 1) := by decide +kernel
theorem dX5_bytes_41 : decode cX5_bytes 41 = .ok (.aload_n 0, 1) := by decide +kernel
theorem dX5_bytes_42 : decode cX5_bytes 42 = .ok (.getfield 21, 3) := by decide +kernel
theorem dX5_bytes_45 : decode cX5_bytes 45 = .ok (.getfield 172, 3) := by decide +kernel
theorem dX5_bytes_48 : decode cX5_bytes 48 = .ok (.iload_n 2, 1) := by decide +kernel
theorem dX5_bytes_49 : decode cX5_bytes 49 = .ok (.iaload, 1) := by decide +kernel
theorem dX5_bytes_50 : decode cX5_bytes 50 = .ok (.if_icmp .lt 5, 3) := by decide +kernel
theorem dX5_bytes_53 : decode cX5_bytes 53 = .ok (.iconst (-1), 1) := by decide +kernel
theorem dX5_bytes_54 : decode cX5_bytes 54 = .ok (.ireturn, 1) := by decide +kernel
theorem dX5_bytes_55 : decode cX5_bytes 55 = .ok (.aload_n 0, 1) := by decide +kernel
theorem dX5_bytes_56 : decode cX5_bytes 56 = .ok (.getfield 21, 3) := by decide +kernel
theorem dX5_bytes_59 : decode cX5_bytes 59 = .ok (.iload_n 2, 1) := by decide +kernel
theorem dX5_bytes_60 : decode cX5_bytes 60 = .ok (.iload_n 3, 1) := by decide +kernel
theorem dX5_bytes_61 : decode cX5_bytes 61 = .ok (.invokevirtual 181, 3) := by decide +kernel
theorem dX5_bytes_64 : decode cX5_bytes 64 = .ok (.astore 5, 2) := by decide +kernel
theorem dX5_bytes_66 : decode cX5_bytes 66 = .ok (.iload 4, 2) := by decide +kernel
theorem dX5_bytes_68 : decode cX5_bytes 68 = .ok (.iconst (-1), 1) := by decide +kernel
theorem dX5_bytes_69 : decode cX5_bytes 69 = .ok (.if_icmp .ne 9, 3) := by decide +kernel
theorem dX5_bytes_72 : decode cX5_bytes 72 = .ok (.aload 5, 2) := by decide +kernel
theorem dX5_bytes_74 : decode cX5_bytes 74 = .ok (.getfield 127, 3) := by decide +kernel
theorem dX5_bytes_77 : decode cX5_bytes 77 = .ok (.ireturn, 1) := by decide +kernel
theorem dX5_bytes_78 : decode cX5_bytes 78 = .ok (.iload 4, 2) := by decide +kernel
theorem dX5_bytes_80 : decode cX5_bytes 80 = .ok (.ifCond .lt 13, 3) := by decide +kernel
theorem dX5_bytes_83 : decode cX5_bytes 83 = .ok (.iload 4, 2) := by decide +kernel
theorem dX5_bytes_85 : decode cX5_bytes 85 = .ok (.aload 5, 2) := by decide +kernel
theorem dX5_bytes_87 : decode cX5_bytes 87 = .ok (.getfield 127, 3) := by decide +kernel
theorem dX5_bytes_90 : decode cX5_bytes 90 = .ok (.if_icmp .lt 5, 3) := by decide +kernel
theorem dX5_bytes_93 : decode cX5_bytes 93 = .ok (.iconst (-1), 1) := by decide +kernel
theorem dX5_bytes_94 : decode cX5_bytes 94 = .ok (.ireturn, 1) := by decide +kernel
theorem dX5_bytes_95 : decode cX5_bytes 95 = .ok (.aload 5, 2) := by decide +kernel
theorem dX5_bytes_97 : decode cX5_bytes 97 = .ok (.getfield 123, 3) := by decide +kernel
theorem dX5_bytes_100 : decode cX5_bytes 100 = .ok (.aload 5, 2) := by decide +kernel
theorem dX5_bytes_102 : decode cX5_bytes 102 = .ok (.getfield 127, 3) := by decide +kernel
theorem dX5_bytes_105 : decode cX5_bytes 105 = .ok (.iload 4, 2) := by decide +kernel
theorem dX5_bytes_107 : decode cX5_bytes 107 = .ok (.invokestatic 184, 3) := by decide +kernel
theorem dX5_bytes_110 : decode cX5_bytes 110 = .ok (.ireturn, 1) := by decide +kernel
theorem dX5_bulk_0 : decode cX5_bulk 0 = .ok (.iload_n 1, 1) := by decide +kernel
theorem dX5_bulk_1 : decode cX5_bulk 1 = .ok (.ifCond .lt 23, 3) := by decide +kernel
theorem dX5_bulk_4 : decode cX5_bulk 4 = .ok (.iload_n 1, 1) := by decide +kernel
theorem dX5_bulk_5 : decode cX5_bulk 5 = .ok (.iconst 5, 1) := by decide +kernel
theorem dX5_bulk_6 : decode cX5_bulk 6 = .ok (.if_icmp .gt 18, 3) := by decide +kernel
theorem dX5_bulk_9 : decode cX5_bulk 9 = .ok (.aload_n 0, 1) := by decide +kernel
theorem dX5_bulk_10 : decode cX5_bulk 10 = .ok (.iload_n 2, 1) := by decide +kernel
theorem dX5_bulk_11 : decode cX5_bulk 11 = .ok (.invokevirtual 62, 3) := by decide +kernel
theorem dX5_bulk_14 : decode cX5_bulk 14 = .ok (.ifCond .eq 10, 3) := by decide +kernel
theorem dX5_bulk_17 : decode cX5_bulk 17 = .ok (.iload_n 3, 1) := by decide +kernel
theorem dX5_bulk_18 : decode cX5_bulk 18 = .ok (.invokestatic 66, 3) := by decide +kernel
theorem dX5_bulk_21 : decode cX5_bulk 21 = .ok (.ifCond .ne 5, 3) := by decide +kernel
theorem dX5_bulk_24 : decode cX5_bulk 24 = .ok (.iconst (-1), 1) := by decide +kernel
theorem dX5_bulk_25 : decode cX5_bulk 25 = .ok (.ireturn, 1) := by decide +kernel
theorem dX5_bulk_26 : decode cX5_bulk 26 = .ok (.aload_n 0, 1) := by decide +kernel
theorem dX5_bulk_27 : decode cX5_bulk 27 = .ok (.iload_n 2, 1) := by decide +kernel
theorem dX5_bulk_28 : decode cX5_bulk 28 = .ok (.invokevirtual 72, 3) := by decide +kernel
theorem dX5_bulk_31 : decode cX5_bulk 31 = .ok (.aload_n 0, 1) := by decide +kernel
theorem dX5_bulk_32 : decode cX5_bulk 32 = .ok (.getfield 21, 3) := by decide +kernel
theorem dX5_bulk_35 : decode cX5_bulk 35 = .ok (.iload_n 3, 1) := by decide +kernel
theorem dX5_bulk_36 : decode cX5_bulk 36 = .ok (.invokevirtual 107, 3) := by decide +kernel
theorem dX5_bulk_39 : decode cX5_bulk 39 = .ok (.ifCond .ne 6, 3) := by decide +kernel
theorem dX5_bulk_42 : decode cX5_bulk 42 = .ok (.bipush (-2), 2) := by decide +kernel
theorem dX5_bulk_44 : decode cX5_bulk 44 = .ok (.ireturn, 1) := by decide +kernel
theorem dX5_bulk_45 : decode cX5_bulk 45 = .ok (.iload_n 1, 1) := by decide +kernel
theorem dX5_bulk_46 : decode cX5_bulk 46 = .ok (.tableswitch 64 1 5 #[34, 40, 46, 52, 58], 34) := by decide +kernel
theorem dX5_bulk_80 : decode cX5_bulk 80 = .ok (.aload_n 0, 1) := by decide +kernel
theorem dX5_bulk_81 : decode cX5_bulk 81 = .ok (.iload_n 3, 1) := by decide +kernel
theorem dX5_bulk_82 : decode cX5_bulk 82 = .ok (.invokevirtual 188, 3) := by decide +kernel
theorem dX5_bulk_85 : decode cX5_bulk 85 = .ok (.ireturn, 1) := by decide +kernel
theorem dX5_bulk_86 : decode cX5_bulk 86 = .ok (.aload_n 0, 1) := by decide +kernel
theorem dX5_bulk_87 : decode cX5_bulk 87 = .ok (.iload_n 3, 1) := by decide +kernel
theorem dX5_bulk_88 : decode cX5_bulk 88 = .ok (.invokevirtual 191, 3) := by decide +kernel
theorem dX5_bulk_91 : decode cX5_bulk 91 = .ok (.ireturn, 1) := by decide +kernel
theorem dX5_bulk_92 : decode cX5_bulk 92 = .ok (.aload_n 0, 1) := by decide +kernel
theorem dX5_bulk_93 : decode cX5_bulk 93 = .ok (.iload_n 3, 1) := by decide +kernel
theorem dX5_bulk_94 : decode cX5_bulk 94 = .ok (.invokevirtual 194, 3) := by decide +kernel
theorem dX5_bulk_97 : decode cX5_bulk 97 = .ok (.ireturn, 1) := by decide +kernel
theorem dX5_bulk_98 : decode cX5_bulk 98 = .ok (.aload_n 0, 1) := by decide +kernel
theorem dX5_bulk_99 : decode cX5_bulk 99 = .ok (.iload_n 3, 1) := by decide +kernel
theorem dX5_bulk_100 : decode cX5_bulk 100 = .ok (.invokevirtual 197, 3) := by decide +kernel
theorem dX5_bulk_103 : decode cX5_bulk 103 = .ok (.ireturn, 1) := by decide +kernel
theorem dX5_bulk_104 : decode cX5_bulk 104 = .ok (.aload_n 0, 1) := by decide +kernel
theorem dX5_bulk_105 : decode cX5_bulk 105 = .ok (.iload_n 3, 1) := by decide +kernel
theorem dX5_bulk_106 : decode cX5_bulk 106 = .ok (.invokevirtual 200, 3) := by decide +kernel
theorem dX5_bulk_109 : decode cX5_bulk 109 = .ok (.ireturn, 1) := by decide +kernel
theorem dX5_bulk_110 : decode cX5_bulk 110 = .ok (.aload_n 0, 1) := by decide +kernel
theorem dX5_bulk_111 : decode cX5_bulk 111 = .ok (.iload_n 3, 1) := by decide +kernel
theorem dX5_bulk_112 : decode cX5_bulk 112 = .ok (.invokevirtual 203, 3) := by decide +kernel
theorem dX5_bulk_115 : decode cX5_bulk 115 = .ok (.ireturn, 1) := by decide +kernel
theorem dX5_things_0 : decode cX5_things 0 = .ok (.aload_n 0, 1) := by decide +kernel
theorem dX5_things_1 : decode cX5_things 1 = .ok (.iload_n 1, 1) := by decide +kernel
theorem dX5_things_2 : decode cX5_things 2 = .ok (.invokevirtual 62, 3) := by decide +kernel
theorem dX5_things_5 : decode cX5_things 5 = .ok (.ifCond .eq 11, 3) := by decide +kernel
theorem dX5_things_8 : decode cX5_things 8 = .ok (.aload_n 0, 1) := by decide +kernel
theorem dX5_things_9 : decode cX5_things 9 = .ok (.iload_n 2, 1) := by decide +kernel
theorem dX5_things_10 : decode cX5_things 10 = .ok (.invokevirtual 165, 3) := by decide +kernel
theorem dX5_things_13 : decode cX5_things 13 = .ok (.ifCond .ne 5, 3) := by decide +kernel
theorem dX5_things_16 : decode cX5_things 16 = .ok (.iconst (-1), 1) := by decide +kernel
theorem dX5_things_17 : decode cX5_things 17 = .ok (.ireturn, 1) := by decide +kernel
theorem dX5_things_18 : decode cX5_things 18 = .ok (.aload_n 0, 1) := by decide +kernel
theorem dX5_things_19 : decode cX5_things 19 = .ok (.getfield 21, 3) := by decide +kernel
theorem dX5_things_22 : decode cX5_things 22 = .ok (.iload_n 1, 1) := by decide +kernel
theorem dX5_things_23 : decode cX5_things 23 = .ok (.iload_n 2, 1) := by decide +kernel
theorem dX5_things_24 : decode cX5_things 24 = .ok (.aload_n 0, 1) := by decide +kernel
theorem dX5_things_25 : decode cX5_things 25 = .ok (.getfield 59, 3) := by decide +kernel
theorem dX5_things_28 : decode cX5_things 28 = .ok (.invokevirtual 168, 3) := by decide +kernel
theorem dX5_things_31 : decode cX5_things 31 = .ok (.iconst 0, 1) := by decide +kernel
theorem dX5_things_32 : decode cX5_things 32 = .ok (.istore_n 3, 1) := by decide +kernel
theorem dX5_things_33 : decode cX5_things 33 = .ok (.iconst 0, 1) := by decide +kernel
theorem dX5_things_34 : decode cX5_things 34 = .ok (.istore 4, 2) := by decide +kernel
theorem dX5_things_36 : decode cX5_things 36 = .ok (.iload 4, 2) := by decide +kernel
theorem dX5_things_38 : decode cX5_things 38 = .ok (.bipush 12, 2) := by decide +kernel
theorem dX5_things_40 : decode cX5_things 40 = .ok (.if_icmp .ge 24, 3) := by decide +kernel
theorem dX5_things_43 : decode cX5_things 43 = .ok (.aload_n 0, 1) := by decide +kernel
theorem dX5_things_44 : decode cX5_things 44 = .ok (.getfield 21, 3) := by decide +kernel
theorem dX5_things_47 : decode cX5_things 47 = .ok (.iload 4, 2) := by decide +kernel
theorem dX5_things_49 : decode cX5_things 49 = .ok (.invokevirtual 107, 3) := by decide +kernel
theorem dX5_things_52 : decode cX5_things 52 = .ok (.ifCond .eq 6, 3) := by decide +kernel
theorem dX5_things_55 : decode cX5_things 55 = .ok (.iinc 3 1, 3) := by decide +kernel
theorem dX5_things_58 : decode cX5_things 58 = .ok (.iinc 4 1, 3) := by decide +kernel
theorem dX5_things_61 : decode cX5_things 61 = .ok (.goto (-25), 3) := by decide +kernel
theorem dX5_things_64 : decode cX5_things 64 = .ok (.iload_n 3, 1) := by decide +kernel
theorem dX5_things_65 : decode cX5_things 65 = .ok (.ireturn, 1) := by decide +kernel
theorem dX5_find_0 : decode cX5_find 0 = .ok (.aload_n 0, 1) := by decide +kernel
theorem dX5_find_1 : decode cX5_find 1 = .ok (.iload_n 1, 1) := by decide +kernel
theorem dX5_find_2 : decode cX5_find 2 = .ok (.invokevirtual 62, 3) := by decide +kernel
theorem dX5_find_5 : decode cX5_find 5 = .ok (.ifCond .eq 20, 3) := by decide +kernel
theorem dX5_find_8 : decode cX5_find 8 = .ok (.iload_n 2, 1) := by decide +kernel
theorem dX5_find_9 : decode cX5_find 9 = .ok (.invokestatic 66, 3) := by decide +kernel
theorem dX5_find_12 : decode cX5_find 12 = .ok (.ifCond .eq 13, 3) := by decide +kernel
theorem dX5_find_15 : decode cX5_find 15 = .ok (.iload_n 3, 1) := by decide +kernel
theorem dX5_find_16 : decode cX5_find 16 = .ok (.ifCond .lt 9, 3) := by decide +kernel
theorem dX5_find_19 : decode cX5_find 19 = .ok (.iload_n 3, 1) := by decide +kernel
theorem dX5_find_20 : decode cX5_find 20 = .ok (.bipush 22, 2) := by decide +kernel
theorem dX5_find_22 : decode cX5_find 22 = .ok (.if_icmp .le 5, 3) := by decide +kernel
theorem dX5_find_25 : decode cX5_find 25 = .ok (.iconst (-1), 1) := by decide +kernel
theorem dX5_find_26 : decode cX5_find 26 = .ok (.ireturn, 1) := by decide +kernel
theorem dX5_find_27 : decode cX5_find 27 = .ok (.aload_n 0, 1) := by decide +kernel
theorem dX5_find_28 : decode cX5_find 28 = .ok (.iload_n 1, 1) := by decide +kernel
theorem dX5_find_29 : decode cX5_find 29 = .ok (.invokevirtual 72, 3) := by decide +kernel
theorem dX5_find_32 : decode cX5_find 32 = .ok (.aload_n 0, 1) := by decide +kernel
theorem dX5_find_33 : decode cX5_find 33 = .ok (.getfield 21, 3) := by decide +kernel
theorem dX5_find_36 : decode cX5_find 36 = .ok (.iload_n 2, 1) := by decide +kernel
theorem dX5_find_37 : decode cX5_find 37 = .ok (.invokevirtual 75, 3) := by decide +kernel
theorem dX5_find_40 : decode cX5_find 40 = .ok (.ifCond .ne 6, 3) := by decide +kernel
theorem dX5_find_43 : decode cX5_find 43 = .ok (.bipush (-2), 2) := by decide +kernel
theorem dX5_find_45 : decode cX5_find 45 = .ok (.ireturn, 1) := by decide +kernel
theorem dX5_find_46 : decode cX5_find 46 = .ok (.aload_n 0, 1) := by decide +kernel
theorem dX5_find_47 : decode cX5_find 47 = .ok (.getfield 21, 3) := by decide +kernel
theorem dX5_find_50 : decode cX5_find 50 = .ok (.iload_n 2, 1) := by decide +kernel
theorem dX5_find_51 : decode cX5_find 51 = .ok (.iload_n 3, 1) := by decide +kernel
theorem dX5_find_52 : decode cX5_find 52 = .ok (.invokevirtual 206, 3) := by decide +kernel
theorem dX5_find_55 : decode cX5_find 55 = .ok (.ireturn, 1) := by decide +kernel
theorem dX5_sum_0 : decode cX5_sum 0 = .ok (.aload_n 0, 1) := by decide +kernel
theorem dX5_sum_1 : decode cX5_sum 1 = .ok (.iload_n 1, 1) := by decide +kernel
theorem dX5_sum_2 : decode cX5_sum 2 = .ok (.invokevirtual 62, 3) := by decide +kernel
theorem dX5_sum_5 : decode cX5_sum 5 = .ok (.ifCond .eq 11, 3) := by decide +kernel
theorem dX5_sum_8 : decode cX5_sum 8 = .ok (.aload_n 0, 1) := by decide +kernel
theorem dX5_sum_9 : decode cX5_sum 9 = .ok (.iload_n 2, 1) := by decide +kernel
theorem dX5_sum_10 : decode cX5_sum 10 = .ok (.invokevirtual 165, 3) := by decide +kernel
theorem dX5_sum_13 : decode cX5_sum 13 = .ok (.ifCond .ne 5, 3) := by decide +kernel
theorem dX5_sum_16 : decode cX5_sum 16 = .ok (.iconst (-1), 1) := by decide +kernel
theorem dX5_sum_17 : decode cX5_sum 17 = .ok (.ireturn, 1) := by decide +kernel
theorem dX5_sum_18 : decode cX5_sum 18 = .ok (.aload_n 0, 1) := by decide +kernel
theorem dX5_sum_19 : decode cX5_sum 19 = .ok (.getfield 21, 3) := by decide +kernel
theorem dX5_sum_22 : decode cX5_sum 22 = .ok (.iload_n 1, 1) := by decide +kernel
theorem dX5_sum_23 : decode cX5_sum 23 = .ok (.iload_n 2, 1) := by decide +kernel
theorem dX5_sum_24 : decode cX5_sum 24 = .ok (.aload_n 0, 1) := by decide +kernel
theorem dX5_sum_25 : decode cX5_sum 25 = .ok (.getfield 59, 3) := by decide +kernel
theorem dX5_sum_28 : decode cX5_sum 28 = .ok (.invokevirtual 168, 3) := by decide +kernel
theorem dX5_sum_31 : decode cX5_sum 31 = .ok (.iconst 0, 1) := by decide +kernel
theorem dX5_sum_32 : decode cX5_sum 32 = .ok (.istore_n 3, 1) := by decide +kernel
theorem dX5_sum_33 : decode cX5_sum 33 = .ok (.iconst 0, 1) := by decide +kernel
theorem dX5_sum_34 : decode cX5_sum 34 = .ok (.istore 4, 2) := by decide +kernel
theorem dX5_sum_36 : decode cX5_sum 36 = .ok (.iload 4, 2) := by decide +kernel
theorem dX5_sum_38 : decode cX5_sum 38 = .ok (.bipush 12, 2) := by decide +kernel
theorem dX5_sum_40 : decode cX5_sum 40 = .ok (.if_icmp .ge 73, 3) := by decide +kernel
theorem dX5_sum_43 : decode cX5_sum 43 = .ok (.aload_n 0, 1) := by decide +kernel
theorem dX5_sum_44 : decode cX5_sum 44 = .ok (.getfield 21, 3) := by decide +kernel
theorem dX5_sum_47 : decode cX5_sum 47 = .ok (.iload 4, 2) := by decide +kernel
theorem dX5_sum_49 : decode cX5_sum 49 = .ok (.invokevirtual 107, 3) := by decide +kernel
theorem dX5_sum_52 : decode cX5_sum 52 = .ok (.ifCond .eq 55, 3) := by decide +kernel
theorem dX5_sum_55 : decode cX5_sum 55 = .ok (.bipush 31, 2) := by decide +kernel
theorem dX5_sum_57 : decode cX5_sum 57 = .ok (.aload_n 0, 1) := by decide +kernel
theorem dX5_sum_58 : decode cX5_sum 58 = .ok (.getfield 21, 3) := by decide +kernel
theorem dX5_sum_61 : decode cX5_sum 61 = .ok (.getfield 177, 3) := by decide +kernel
theorem dX5_sum_64 : decode cX5_sum 64 = .ok (.iload 4, 2) := by decide +kernel
theorem dX5_sum_66 : decode cX5_sum 66 = .ok (.iaload, 1) := by decide +kernel
theorem dX5_sum_67 : decode cX5_sum 67 = .ok (.imul, 1) := by decide +kernel
theorem dX5_sum_68 : decode cX5_sum 68 = .ok (.bipush 7, 2) := by decide +kernel
theorem dX5_sum_70 : decode cX5_sum 70 = .ok (.aload_n 0, 1) := by decide +kernel
theorem dX5_sum_71 : decode cX5_sum 71 = .ok (.getfield 21, 3) := by decide +kernel
theorem dX5_sum_74 : decode cX5_sum 74 = .ok (.getfield 179, 3) := by decide +kernel
theorem dX5_sum_77 : decode cX5_sum 77 = .ok (.iload 4, 2) := by decide +kernel
theorem dX5_sum_79 : decode cX5_sum 79 = .ok (.iaload, 1) := by decide +kernel
theorem dX5_sum_80 : decode cX5_sum 80 = .ok (.imul, 1) := by decide +kernel
theorem dX5_sum_81 : decode cX5_sum 81 = .ok (.iadd, 1) := by decide +kernel
theorem dX5_sum_82 : decode cX5_sum 82 = .ok (.aload_n 0, 1) := by decide +kernel
theorem dX5_sum_83 : decode cX5_sum 83 = .ok (.getfield 21, 3) := by decide +kernel
theorem dX5_sum_86 : decode cX5_sum 86 = .ok (.iload 4, 2) := by decide +kernel
theorem dX5_sum_88 : decode cX5_sum 88 = .ok (.invokevirtual 210, 3) := by decide +kernel
theorem dX5_sum_91 : decode cX5_sum 91 = .ok (.iadd, 1) := by decide +kernel
theorem dX5_sum_92 : decode cX5_sum 92 = .ok (.istore 5, 2) := by decide +kernel
