theorem dX4_init_0 : decode cX4_init 0 = .ok (.aload_n 0, 1) := by decide +kernel
theorem dX4_init_1 : decode cX4_init 1 = .ok (.invokespecial 3, 3) := by decide +kernel
theorem dX4_init_4 : decode cX4_init 4 = .ok (.aload_n 0, 1) := by decide +kernel
theorem dX4_init_5 : decode cX4_init 5 = .ok (.bipush 12, 2) := by decide +kernel
theorem dX4_init_7 : decode cX4_init 7 = .ok (.newarray .boolean, 2) := by decide +kernel
theorem dX4_init_9 : decode cX4_init 9 = .ok (.putfield 9, 3) := by decide +kernel
theorem dX4_init_12 : decode cX4_init 12 = .ok (.aload_n 0, 1) := by decide +kernel
theorem dX4_init_13 : decode cX4_init 13 = .ok (.bipush 12, 2) := by decide +kernel
theorem dX4_init_15 : decode cX4_init 15 = .ok (.newarray .boolean, 2) := by decide +kernel
theorem dX4_init_17 : decode cX4_init 17 = .ok (.putfield 15, 3) := by decide +kernel
theorem dX4_init_20 : decode cX4_init 20 = .ok (.aload_n 0, 1) := by decide +kernel
theorem dX4_init_21 : decode cX4_init 21 = .ok (.bipush 12, 2) := by decide +kernel
theorem dX4_init_23 : decode cX4_init 23 = .ok (.newarray .int, 2) := by decide +kernel
theorem dX4_init_25 : decode cX4_init 25 = .ok (.putfield 18, 3) := by decide +kernel
theorem dX4_init_28 : decode cX4_init 28 = .ok (.aload_n 0, 1) := by decide +kernel
theorem dX4_init_29 : decode cX4_init 29 = .ok (.bipush 12, 2) := by decide +kernel
theorem dX4_init_31 : decode cX4_init 31 = .ok (.newarray .int, 2) := by decide +kernel
theorem dX4_init_33 : decode cX4_init 33 = .ok (.putfield 22, 3) := by decide +kernel
theorem dX4_init_36 : decode cX4_init 36 = .ok (.aload_n 0, 1) := by decide +kernel
theorem dX4_init_37 : decode cX4_init 37 = .ok (.bipush 12, 2) := by decide +kernel
theorem dX4_init_39 : decode cX4_init 39 = .ok (.newarray .int, 2) := by decide +kernel
theorem dX4_init_41 : decode cX4_init 41 = .ok (.putfield 25, 3) := by decide +kernel
theorem dX4_init_44 : decode cX4_init 44 = .ok (.aload_n 0, 1) := by decide +kernel
theorem dX4_init_45 : decode cX4_init 45 = .ok (.bipush 12, 2) := by decide +kernel
theorem dX4_init_47 : decode cX4_init 47 = .ok (.newarray .int, 2) := by decide +kernel
theorem dX4_init_49 : decode cX4_init 49 = .ok (.putfield 28, 3) := by decide +kernel
theorem dX4_init_52 : decode cX4_init 52 = .ok (.aload_n 0, 1) := by decide +kernel
theorem dX4_init_53 : decode cX4_init 53 = .ok (.bipush 12, 2) := by decide +kernel
theorem dX4_init_55 : decode cX4_init 55 = .ok (.newarray .int, 2) := by decide +kernel
theorem dX4_init_57 : decode cX4_init 57 = .ok (.putfield 31, 3) := by decide +kernel
theorem dX4_init_60 : decode cX4_init 60 = .ok (.aload_n 0, 1) := by decide +kernel
theorem dX4_init_61 : decode cX4_init 61 = .ok (.bipush 12, 2) := by decide +kernel
theorem dX4_init_63 : decode cX4_init 63 = .ok (.newarray .int, 2) := by decide +kernel
theorem dX4_init_65 : decode cX4_init 65 = .ok (.putfield 34, 3) := by decide +kernel
theorem dX4_init_68 : decode cX4_init 68 = .ok (.aload_n 0, 1) := by decide +kernel
theorem dX4_init_69 : decode cX4_init 69 = .ok (.bipush 48, 2) := by decide +kernel
theorem dX4_init_71 : decode cX4_init 71 = .ok (.newarray .int, 2) := by decide +kernel
theorem dX4_init_73 : decode cX4_init 73 = .ok (.putfield 37, 3) := by decide +kernel
theorem dX4_init_76 : decode cX4_init 76 = .ok (.aload_n 0, 1) := by decide +kernel
theorem dX4_init_77 : decode cX4_init 77 = .ok (.aload_n 1, 1) := by decide +kernel
theorem dX4_init_78 : decode cX4_init 78 = .ok (.putfield 40, 3) := by decide +kernel
theorem dX4_init_81 : decode cX4_init 81 = .ok (.return_, 1) := by decide +kernel
theorem dX4_grow_0 : decode cX4_grow 0 = .ok (.aload_n 0, 1) := by decide +kernel
theorem dX4_grow_1 : decode cX4_grow 1 = .ok (.invokevirtual 44, 3) := by decide +kernel
theorem dX4_grow_4 : decode cX4_grow 4 = .ok (.iconst 0, 1) := by decide +kernel
theorem dX4_grow_5 : decode cX4_grow 5 = .ok (.istore 4, 2) := by decide +kernel
theorem dX4_grow_7 : decode cX4_grow 7 = .ok (.iload 4, 2) := by decide +kernel
theorem dX4_grow_9 : decode cX4_grow 9 = .ok (.aload_n 0, 1) := by decide +kernel
theorem dX4_grow_10 : decode cX4_grow 10 = .ok (.getfield 40, 3) := by decide +kernel
theorem dX4_grow_13 : decode cX4_grow 13 = .ok (.getfield 47, 3) := by decide +kernel
theorem dX4_grow_16 : decode cX4_grow 16 = .ok (.if_icmp .ge 55, 3) := by decide +kernel
theorem dX4_grow_19 : decode cX4_grow 19 = .ok (.aload_n 0, 1) := by decide +kernel
theorem dX4_grow_20 : decode cX4_grow 20 = .ok (.getfield 40, 3) := by decide +kernel
theorem dX4_grow_23 : decode cX4_grow 23 = .ok (.iload 4, 2) := by decide +kernel
theorem dX4_grow_25 : decode cX4_grow 25 = .ok (.invokevirtual 53, 3) := by decide +kernel
theorem dX4_grow_28 : decode cX4_grow 28 = .ok (.astore 5, 2) := by decide +kernel
theorem dX4_grow_30 : decode cX4_grow 30 = .ok (.aload_n 0, 1) := by decide +kernel
theorem dX4_grow_31 : decode cX4_grow 31 = .ok (.getfield 40, 3) := by decide +kernel
theorem dX4_grow_34 : decode cX4_grow 34 = .ok (.iload_n 2, 1) := by decide +kernel
theorem dX4_grow_35 : decode cX4_grow 35 = .ok (.iload_n 1, 1) := by decide +kernel
theorem dX4_grow_36 : decode cX4_grow 36 = .ok (.aload 5, 2) := by decide +kernel
theorem dX4_grow_38 : decode cX4_grow 38 = .ok (.invokevirtual 57, 3) := by decide +kernel
theorem dX4_grow_41 : decode cX4_grow 41 = .ok (.ifCond .eq 24, 3) := by decide +kernel
theorem dX4_grow_44 : decode cX4_grow 44 = .ok (.aload_n 0, 1) := by decide +kernel
theorem dX4_grow_45 : decode cX4_grow 45 = .ok (.getfield 40, 3) := by decide +kernel
theorem dX4_grow_48 : decode cX4_grow 48 = .ok (.aload 5, 2) := by decide +kernel
theorem dX4_grow_50 : decode cX4_grow 50 = .ok (.invokevirtual 61, 3) := by decide +kernel
theorem dX4_grow_53 : decode cX4_grow 53 = .ok (.ifCond .ne 12, 3) := by decide +kernel
theorem dX4_grow_56 : decode cX4_grow 56 = .ok (.aload_n 0, 1) := by decide +kernel
theorem dX4_grow_57 : decode cX4_grow 57 = .ok (.aload 5, 2) := by decide +kernel
theorem dX4_grow_59 : decode cX4_grow 59 = .ok (.iload 4, 2) := by decide +kernel
theorem dX4_grow_61 : decode cX4_grow 61 = .ok (.iload_n 3, 1) := by decide +kernel
theorem dX4_grow_62 : decode cX4_grow 62 = .ok (.invokevirtual 65, 3) := by decide +kernel
theorem dX4_grow_65 : decode cX4_grow 65 = .ok (.iinc 4 1, 3) := by decide +kernel
theorem dX4_grow_68 : decode cX4_grow 68 = .ok (.goto (-61), 3) := by decide +kernel
theorem dX4_grow_71 : decode cX4_grow 71 = .ok (.aload_n 0, 1) := by decide +kernel
theorem dX4_grow_72 : decode cX4_grow 72 = .ok (.iload_n 3, 1) := by decide +kernel
theorem dX4_grow_73 : decode cX4_grow 73 = .ok (.invokevirtual 69, 3) := by decide +kernel
theorem dX4_grow_76 : decode cX4_grow 76 = .ok (.return_, 1) := by decide +kernel
theorem dX4_clear_0 : decode cX4_clear 0 = .ok (.iconst 0, 1) := by decide +kernel
theorem dX4_clear_1 : decode cX4_clear 1 = .ok (.istore_n 1, 1) := by decide +kernel
theorem dX4_clear_2 : decode cX4_clear 2 = .ok (.iload_n 1, 1) := by decide +kernel
theorem dX4_clear_3 : decode cX4_clear 3 = .ok (.bipush 12, 2) := by decide +kernel
theorem dX4_clear_5 : decode cX4_clear 5 = .ok (.if_icmp .ge 65, 3) := by decide +kernel
theorem dX4_clear_8 : decode cX4_clear 8 = .ok (.aload_n 0, 1) := by decide +kernel
theorem dX4_clear_9 : decode cX4_clear 9 = .ok (.getfield 9, 3) := by decide +kernel
theorem dX4_clear_12 : decode cX4_clear 12 = .ok (.iload_n 1, 1) := by decide +kernel
theorem dX4_clear_13 : decode cX4_clear 13 = .ok (.iconst 0, 1) := by decide +kernel
theorem dX4_clear_14 : decode cX4_clear 14 = .ok (.bastore, 1) := by decide +kernel
theorem dX4_clear_15 : decode cX4_clear 15 = .ok (.aload_n 0, 1) := by decide +kernel
theorem dX4_clear_16 : decode cX4_clear 16 = .ok (.getfield 15, 3) := by decide +kernel
theorem dX4_clear_19 : decode cX4_clear 19 = .ok (.iload_n 1, 1) := by decide +kernel
theorem dX4_clear_20 : decode cX4_clear 20 = .ok (.iconst 0, 1) := by decide +kernel
theorem dX4_clear_21 : decode cX4_clear 21 = .ok (.bastore, 1) := by decide +kernel
theorem dX4_clear_22 : decode cX4_clear 22 = .ok (.aload_n 0, 1) := by decide +kernel
theorem dX4_clear_23 : decode cX4_clear 23 = .ok (.getfield 18, 3) := by decide +kernel
theorem dX4_clear_26 : decode cX4_clear 26 = .ok (.iload_n 1, 1) := by decide +kernel
theorem dX4_clear_27 : decode cX4_clear 27 = .ok (.iconst 1, 1) := by decide +kernel
theorem dX4_clear_28 : decode cX4_clear 28 = .ok (.iastore, 1) := by decide +kernel
theorem dX4_clear_29 : decode cX4_clear 29 = .ok (.aload_n 0, 1) := by decide +kernel
theorem dX4_clear_30 : decode cX4_clear 30 = .ok (.getfield 22, 3) := by decide +kernel
theorem dX4_clear_33 : decode cX4_clear 33 = .ok (.iload_n 1, 1) := by decide +kernel
theorem dX4_clear_34 : decode cX4_clear 34 = .ok (.iconst 0, 1) := by decide +kernel
theorem dX4_clear_35 : decode cX4_clear 35 = .ok (.iastore, 1) := by decide +kernel
theorem dX4_clear_36 : decode cX4_clear 36 = .ok (.aload_n 0, 1) := by decide +kernel
theorem dX4_clear_37 : decode cX4_clear 37 = .ok (.getfield 25, 3) := by decide +kernel
theorem dX4_clear_40 : decode cX4_clear 40 = .ok (.iload_n 1, 1) := by decide +kernel
theorem dX4_clear_41 : decode cX4_clear 41 = .ok (.iconst 0, 1) := by decide +kernel
theorem dX4_clear_42 : decode cX4_clear 42 = .ok (.iastore, 1) := by decide +kernel
theorem dX4_clear_43 : decode cX4_clear 43 = .ok (.aload_n 0, 1) := by decide +kernel
theorem dX4_clear_44 : decode cX4_clear 44 = .ok (.getfield 28, 3) := by decide +kernel
theorem dX4_clear_47 : decode cX4_clear 47 = .ok (.iload_n 1, 1) := by decide +kernel
theorem dX4_clear_48 : decode cX4_clear 48 = .ok (.iconst (-1), 1) := by decide +kernel
theorem dX4_clear_49 : decode cX4_clear 49 = .ok (.iastore, 1) := by decide +kernel
theorem dX4_clear_50 : decode cX4_clear 50 = .ok (.aload_n 0, 1) := by decide +kernel
theorem dX4_clear_51 : decode cX4_clear 51 = .ok (.getfield 31, 3) := by decide +kernel
theorem dX4_clear_54 : decode cX4_clear 54 = .ok (.iload_n 1, 1) := by decide +kernel
theorem dX4_clear_55 : decode cX4_clear 55 = .ok (.iconst 0, 1) := by decide +kernel
theorem dX4_clear_56 : decode cX4_clear 56 = .ok (.iastore, 1) := by decide +kernel
theorem dX4_clear_57 : decode cX4_clear 57 = .ok (.aload_n 0, 1) := by decide +kernel
theorem dX4_clear_58 : decode cX4_clear 58 = .ok (.getfield 34, 3) := by decide +kernel
theorem dX4_clear_61 : decode cX4_clear 61 = .ok (.iload_n 1, 1) := by decide +kernel
theorem dX4_clear_62 : decode cX4_clear 62 = .ok (.iconst 0, 1) := by decide +kernel
theorem dX4_clear_63 : decode cX4_clear 63 = .ok (.iastore, 1) := by decide +kernel
theorem dX4_clear_64 : decode cX4_clear 64 = .ok (.iinc 1 1, 3) := by decide +kernel
theorem dX4_clear_67 : decode cX4_clear 67 = .ok (.goto (-65), 3) := by decide +kernel
theorem dX4_clear_70 : decode cX4_clear 70 = .ok (.aload_n 0, 1) := by decide +kernel
theorem dX4_clear_71 : decode cX4_clear 71 = .ok (.getfield 9, 3) := by decide +kernel
theorem dX4_clear_74 : decode cX4_clear 74 = .ok (.iconst 0, 1) := by decide +kernel
theorem dX4_clear_75 : decode cX4_clear 75 = .ok (.iconst 1, 1) := by decide +kernel
theorem dX4_clear_76 : decode cX4_clear 76 = .ok (.bastore, 1) := by decide +kernel
theorem dX4_clear_77 : decode cX4_clear 77 = .ok (.aload_n 0, 1) := by decide +kernel
theorem dX4_clear_78 : decode cX4_clear 78 = .ok (.getfield 15, 3) := by decide +kernel
theorem dX4_clear_81 : decode cX4_clear 81 = .ok (.iconst 0, 1) := by decide +kernel
theorem dX4_clear_82 : decode cX4_clear 82 = .ok (.iconst 1, 1) := by decide +kernel
theorem dX4_clear_83 : decode cX4_clear 83 = .ok (.bastore, 1) := by decide +kernel
theorem dX4_clear_84 : decode cX4_clear 84 = .ok (.aload_n 0, 1) := by decide +kernel
theorem dX4_clear_85 : decode cX4_clear 85 = .ok (.getfield 18, 3) := by decide +kernel
theorem dX4_clear_88 : decode cX4_clear 88 = .ok (.iconst 0, 1) := by decide +kernel
theorem dX4_clear_89 : decode cX4_clear 89 = .ok (.iconst 2, 1) := by decide +kernel
theorem dX4_clear_90 : decode cX4_clear 90 = .ok (.iastore, 1) := by decide +kernel
theorem dX4_clear_91 : decode cX4_clear 91 = .ok (.aload_n 0, 1) := by decide +kernel
theorem dX4_clear_92 : decode cX4_clear 92 = .ok (.getfield 28, 3) := by decide +kernel
theorem dX4_clear_95 : decode cX4_clear 95 = .ok (.iconst 0, 1) := by decide +kernel
theorem dX4_clear_96 : decode cX4_clear 96 = .ok (.iconst 0, 1) := by decide +kernel
theorem dX4_clear_97 : decode cX4_clear 97 = .ok (.iastore, 1) := by decide +kernel
theorem dX4_clear_98 : decode cX4_clear 98 = .ok (.return_, 1) := by decide +kernel
theorem dX4_apply_0 : decode cX4_apply 0 = .ok (.aload_n 1, 1) := by decide +kernel
theorem dX4_apply_1 : decode cX4_apply 1 = .ok (.getfield 73, 3) := by decide +kernel
theorem dX4_apply_4 : decode cX4_apply 4 = .ok (.tableswitch 76 0 2 #[28, 37, 65], 28) := by decide +kernel
theorem dX4_apply_32 : decode cX4_apply 32 = .ok (.aload_n 0, 1) := by decide +kernel
theorem dX4_apply_33 : decode cX4_apply 33 = .ok (.aload_n 1, 1) := by decide +kernel
theorem dX4_apply_34 : decode cX4_apply 34 = .ok (.iload_n 2, 1) := by decide +kernel
theorem dX4_apply_35 : decode cX4_apply 35 = .ok (.invokevirtual 78, 3) := by decide +kernel
theorem dX4_apply_38 : decode cX4_apply 38 = .ok (.goto 48, 3) := by decide +kernel
theorem dX4_apply_41 : decode cX4_apply 41 = .ok (.aload_n 0, 1) := by decide +kernel
theorem dX4_apply_42 : decode cX4_apply 42 = .ok (.aload_n 1, 1) := by decide +kernel
theorem dX4_apply_43 : decode cX4_apply 43 = .ok (.getfield 82, 3) := by decide +kernel
theorem dX4_apply_46 : decode cX4_apply 46 = .ok (.aload_n 1, 1) := by decide +kernel
theorem dX4_apply_47 : decode cX4_apply 47 = .ok (.getfield 85, 3) := by decide +kernel
theorem dX4_apply_50 : decode cX4_apply 50 = .ok (.invokevirtual 87, 3) := by decide +kernel
theorem dX4_apply_53 : decode cX4_apply 53 = .ok (.ifCond .eq 33, 3) := by decide +kernel
theorem dX4_apply_56 : decode cX4_apply 56 = .ok (.aload_n 0, 1) := by decide +kernel
theorem dX4_apply_57 : decode cX4_apply 57 = .ok (.aload_n 1, 1) := by decide +kernel
theorem dX4_apply_58 : decode cX4_apply 58 = .ok (.aload_n 1, 1) := by decide +kernel
theorem dX4_apply_59 : decode cX4_apply 59 = .ok (.getfield 85, 3) := by decide +kernel
theorem dX4_apply_62 : decode cX4_apply 62 = .ok (.iload_n 2, 1) := by decide +kernel
theorem dX4_apply_63 : decode cX4_apply 63 = .ok (.invokevirtual 91, 3) := by decide +kernel
theorem dX4_apply_66 : decode cX4_apply 66 = .ok (.goto 20, 3) := by decide +kernel
theorem dX4_apply_69 : decode cX4_apply 69 = .ok (.aload_n 0, 1) := by decide +kernel
theorem dX4_apply_70 : decode cX4_apply 70 = .ok (.aload_n 1, 1) := by decide +kernel
theorem dX4_apply_71 : decode cX4_apply 71 = .ok (.getfield 82, 3) := by decide +kernel
theorem dX4_apply_74 : decode cX4_apply 74 = .ok (.invokevirtual 94, 3) := by decide +kernel
theorem dX4_apply_77 : decode cX4_apply 77 = .ok (.goto 9, 3) := by decide +kernel
theorem dX4_apply_80 : decode cX4_apply 80 = .ok (.aload_n 0, 1) := by decide +kernel
theorem dX4_apply_81 : decode cX4_apply 81 = .ok (.aload_n 1, 1) := by decide +kernel
theorem dX4_apply_82 : decode cX4_apply 82 = .ok (.iload_n 3, 1) := by decide +kernel
theorem dX4_apply_83 : decode cX4_apply 83 = .ok (.invokevirtual 97, 3) := by decide +kernel
theorem dX4_apply_86 : decode cX4_apply 86 = .ok (.return_, 1) := by decide +kernel
theorem dX4_applyNew_0 : decode cX4_applyNew 0 = .ok (.aload_n 1, 1) := by decide +kernel
theorem dX4_applyNew_1 : decode cX4_applyNew 1 = .ok (.getfield 82, 3) := by decide +kernel
theorem dX4_applyNew_4 : decode cX4_applyNew 4 = .ok (.istore_n 3, 1) := by decide +kernel
theorem dX4_applyNew_5 : decode cX4_applyNew 5 = .ok (.aload_n 0, 1) := by decide +kernel
theorem dX4_applyNew_6 : decode cX4_applyNew 6 = .ok (.getfield 9, 3) := by decide +kernel
theorem dX4_applyNew_9 : decode cX4_applyNew 9 = .ok (.iload_n 3, 1) := by decide +kernel
theorem dX4_applyNew_10 : decode cX4_applyNew 10 = .ok (.baload, 1) := by decide +kernel
theorem dX4_applyNew_11 : decode cX4_applyNew 11 = .ok (.ifCond .eq 4, 3) := by decide +kernel
theorem dX4_applyNew_14 : decode cX4_applyNew 14 = .ok (.return_, 1) := by decide +kernel
theorem dX4_applyNew_15 : decode cX4_applyNew 15 = .ok (.aload_n 0, 1) := by decide +kernel
theorem dX4_applyNew_16 : decode cX4_applyNew 16 = .ok (.aload_n 1, 1) := by decide +kernel
theorem dX4_applyNew_17 : decode cX4_applyNew 17 = .ok (.aload_n 0, 1) := by decide +kernel
theorem dX4_applyNew_18 : decode cX4_applyNew 18 = .ok (.aload_n 1, 1) := by decide +kernel
theorem dX4_applyNew_19 : decode cX4_applyNew 19 = .ok (.getfield 85, 3) := by decide +kernel
theorem dX4_applyNew_22 : decode cX4_applyNew 22 = .ok (.invokevirtual 100, 3) := by decide +kernel
theorem dX4_applyNew_25 : decode cX4_applyNew 25 = .ok (.ifCond .eq 10, 3) := by decide +kernel
theorem dX4_applyNew_28 : decode cX4_applyNew 28 = .ok (.aload_n 1, 1) := by decide +kernel
theorem dX4_applyNew_29 : decode cX4_applyNew 29 = .ok (.getfield 85, 3) := by decide +kernel
theorem dX4_applyNew_32 : decode cX4_applyNew 32 = .ok (.goto 4, 3) := by decide +kernel
theorem dX4_applyNew_35 : decode cX4_applyNew 35 = .ok (.iconst 0, 1) := by decide +kernel
theorem dX4_applyNew_36 : decode cX4_applyNew 36 = .ok (.iload_n 2, 1) := by decide +kernel
theorem dX4_applyNew_37 : decode cX4_applyNew 37 = .ok (.invokevirtual 91, 3) := by decide +kernel
theorem dX4_applyNew_40 : decode cX4_applyNew 40 = .ok (.aload_n 0, 1) := by decide +kernel
theorem dX4_applyNew_41 : decode cX4_applyNew 41 = .ok (.getfield 9, 3) := by decide +kernel
theorem dX4_applyNew_44 : decode cX4_applyNew 44 = .ok (.iload_n 3, 1) := by decide +kernel
theorem dX4_applyNew_45 : decode cX4_applyNew 45 = .ok (.iconst 1, 1) := by decide +kernel
theorem dX4_applyNew_46 : decode cX4_applyNew 46 = .ok (.bastore, 1) := by decide +kernel
theorem dX4_applyNew_47 : decode cX4_applyNew 47 = .ok (.aload_n 0, 1) := by decide +kernel
theorem dX4_applyNew_48 : decode cX4_applyNew 48 = .ok (.getfield 15, 3) := by decide +kernel
theorem dX4_applyNew_51 : decode cX4_applyNew 51 = .ok (.iload_n 3, 1) := by decide +kernel
theorem dX4_applyNew_52 : decode cX4_applyNew 52 = .ok (.iconst 1, 1) := by decide +kernel
theorem dX4_applyNew_53 : decode cX4_applyNew 53 = .ok (.bastore, 1) := by decide +kernel
theorem dX4_applyNew_54 : decode cX4_applyNew 54 = .ok (.aload_n 0, 1) := by decide +kernel
theorem dX4_applyNew_55 : decode cX4_applyNew 55 = .ok (.getfield 18, 3) := by decide +kernel
theorem dX4_applyNew_58 : decode cX4_applyNew 58 = .ok (.iload_n 3, 1) := by decide +kernel
theorem dX4_applyNew_59 : decode cX4_applyNew 59 = .ok (.aload_n 1, 1) := by decide +kernel
theorem dX4_applyNew_60 : decode cX4_applyNew 60 = .ok (.getfield 104, 3) := by decide +kernel
theorem dX4_applyNew_63 : decode cX4_applyNew 63 = .ok (.iastore, 1) := by decide +kernel
theorem dX4_applyNew_64 : decode cX4_applyNew 64 = .ok (.return_, 1) := by decide +kernel
theorem dX4_put_0 : decode cX4_put 0 = .ok (.aload_n 0, 1) := by decide +kernel
theorem dX4_put_1 : decode cX4_put 1 = .ok (.getfield 22, 3) := by decide +kernel
theorem dX4_put_4 : decode cX4_put 4 = .ok (.aload_n 1, 1) := by decide +kernel
theorem dX4_put_5 : decode cX4_put 5 = .ok (.getfield 82, 3) := by decide +kernel
theorem dX4_put_8 : decode cX4_put 8 = .ok (.iload_n 2, 1) := by decide +kernel
theorem dX4_put_9 : decode cX4_put 9 = .ok (.iastore, 1) := by decide +kernel
theorem dX4_put_10 : decode cX4_put 10 = .ok (.aload_n 0, 1) := by decide +kernel
theorem dX4_put_11 : decode cX4_put 11 = .ok (.getfield 25, 3) := by decide +kernel
theorem dX4_put_14 : decode cX4_put 14 = .ok (.aload_n 1, 1) := by decide +kernel
theorem dX4_put_15 : decode cX4_put 15 = .ok (.getfield 82, 3) := by decide +kernel
theorem dX4_put_18 : decode cX4_put 18 = .ok (.aload_n 1, 1) := by decide +kernel
theorem dX4_put_19 : decode cX4_put 19 = .ok (.getfield 106, 3) := by decide +kernel
theorem dX4_put_22 : decode cX4_put 22 = .ok (.iastore, 1) := by decide +kernel
theorem dX4_put_23 : decode cX4_put 23 = .ok (.aload_n 0, 1) := by decide +kernel
theorem dX4_put_24 : decode cX4_put 24 = .ok (.getfield 31, 3) := by decide +kernel
theorem dX4_put_27 : decode cX4_put 27 = .ok (.aload_n 1, 1) := by decide +kernel
theorem dX4_put_28 : decode cX4_put 28 = .ok (.getfield 82, 3) := by decide +kernel
theorem dX4_put_31 : decode cX4_put 31 = .ok (.iload_n 3, 1) := by decide +kernel
theorem dX4_put_32 : decode cX4_put 32 = .ok (.iastore, 1) := by decide +kernel
theorem dX4_put_33 : decode cX4_put 33 = .ok (.return_, 1) := by decide +kernel
theorem dX4_applyGone_0 : decode cX4_applyGone 0 = .ok (.iload_n 1, 1) := by decide +kernel
theorem dX4_applyGone_1 : decode cX4_applyGone 1 = .ok (.ifCond .eq 12, 3) := by decide +kernel
theorem dX4_applyGone_4 : decode cX4_applyGone 4 = .ok (.aload_n 0, 1) := by decide +kernel
theorem dX4_applyGone_5 : decode cX4_applyGone 5 = .ok (.getfield 15, 3) := by decide +kernel
theorem dX4_applyGone_8 : decode cX4_applyGone 8 = .ok (.iload_n 1, 1) := by decide +kernel
theorem dX4_applyGone_9 : decode cX4_applyGone 9 = .ok (.baload, 1) := by decide +kernel
theorem dX4_applyGone_10 : decode cX4_applyGone 10 = .ok (.ifCond .ne 4, 3) := by decide +kernel
theorem dX4_applyGone_13 : decode cX4_applyGone 13 = .ok (.return_, 1) := by decide +kernel
theorem dX4_applyGone_14 : decode cX4_applyGone 14 = .ok (.iconst 1, 1) := by decide +kernel
theorem dX4_applyGone_15 : decode cX4_applyGone 15 = .ok (.istore_n 2, 1) := by decide +kernel
theorem dX4_applyGone_16 : decode cX4_applyGone 16 = .ok (.iload_n 2, 1) := by decide +kernel
theorem dX4_applyGone_17 : decode cX4_applyGone 17 = .ok (.bipush 12, 2) := by decide +kernel
theorem dX4_applyGone_19 : decode cX4_applyGone 19 = .ok (.if_icmp .ge 34, 3) := by decide +kernel
theorem dX4_applyGone_22 : decode cX4_applyGone 22 = .ok (.aload_n 0, 1) := by decide +kernel
theorem dX4_applyGone_23 : decode cX4_applyGone 23 = .ok (.getfield 15, 3) := by decide +kernel
theorem dX4_applyGone_26 : decode cX4_applyGone 26 = .ok (.iload_n 2, 1) := by decide +kernel
theorem dX4_applyGone_27 : decode cX4_applyGone 27 = .ok (.baload, 1) := by decide +kernel
theorem dX4_applyGone_28 : decode cX4_applyGone 28 = .ok (.ifCond .eq 19, 3) := by decide +kernel
theorem dX4_applyGone_31 : decode cX4_applyGone 31 = .ok (.aload_n 0, 1) := by decide +kernel
theorem dX4_applyGone_32 : decode cX4_applyGone 32 = .ok (.iload_n 2, 1) := by decide +kernel
theorem dX4_applyGone_33 : decode cX4_applyGone 33 = .ok (.iload_n 1, 1) := by decide +kernel
theorem dX4_applyGone_34 : decode cX4_applyGone 34 = .ok (.invokevirtual 108, 3) := by decide +kernel
theorem dX4_applyGone_37 : decode cX4_applyGone 37 = .ok (.ifCond .eq 10, 3) := by decide +kernel
theorem dX4_applyGone_40 : decode cX4_applyGone 40 = .ok (.aload_n 0, 1) := by decide +kernel
theorem dX4_applyGone_41 : decode cX4_applyGone 41 = .ok (.getfield 15, 3) := by decide +kernel
theorem dX4_applyGone_44 : decode cX4_applyGone 44 = .ok (.iload_n 2, 1) := by decide +kernel
theorem dX4_applyGone_45 : decode cX4_applyGone 45 = .ok (.iconst 0, 1) := by decide +kernel
theorem dX4_applyGone_46 : decode cX4_applyGone 46 = .ok (.bastore, 1) := by decide +kernel
theorem dX4_applyGone_47 : decode cX4_applyGone 47 = .ok (.iinc 2 1, 3) := by decide +kernel
theorem dX4_applyGone_50 : decode cX4_applyGone 50 = .ok (.goto (-34), 3) := by decide +kernel
theorem dX4_applyGone_53 : decode cX4_applyGone 53 = .ok (.return_, 1) := by decide +kernel
theorem dX4_applyWrite_0 : decode cX4_applyWrite 0 = .ok (.aload_n 1, 1) := by decide +kernel
theorem dX4_applyWrite_1 : decode cX4_applyWrite 1 = .ok (.getfield 82, 3) := by decide +kernel
theorem dX4_applyWrite_4 : decode cX4_applyWrite 4 = .ok (.istore_n 3, 1) := by decide +kernel
theorem dX4_applyWrite_5 : decode cX4_applyWrite 5 = .ok (.aload_n 0, 1) := by decide +kernel
theorem dX4_applyWrite_6 : decode cX4_applyWrite 6 = .ok (.getfield 9, 3) := by decide +kernel
theorem dX4_applyWrite_9 : decode cX4_applyWrite 9 = .ok (.iload_n 3, 1) := by decide +kernel
theorem dX4_applyWrite_10 : decode cX4_applyWrite 10 = .ok (.baload, 1) := by decide +kernel
theorem dX4_applyWrite_11 : decode cX4_applyWrite 11 = .ok (.ifCond .eq 13, 3) := by decide +kernel
theorem dX4_applyWrite_14 : decode cX4_applyWrite 14 = .ok (.aload_n 0, 1) := by decide +kernel
theorem dX4_applyWrite_15 : decode cX4_applyWrite 15 = .ok (.getfield 18, 3) := by decide +kernel
theorem dX4_applyWrite_18 : decode cX4_applyWrite 18 = .ok (.iload_n 3, 1) := by decide +kernel
theorem dX4_applyWrite_19 : decode cX4_applyWrite 19 = .ok (.iaload, 1) := by decide +kernel
theorem dX4_applyWrite_20 : decode cX4_applyWrite 20 = .ok (.iconst 1, 1) := by decide +kernel
theorem dX4_applyWrite_21 : decode cX4_applyWrite 21 = .ok (.if_icmp .eq 4, 3) := by decide +kernel
theorem dX4_applyWrite_24 : decode cX4_applyWrite 24 = .ok (.return_, 1) := by decide +kernel
theorem dX4_applyWrite_25 : decode cX4_applyWrite 25 = .ok (.aload_n 0, 1) := by decide +kernel
theorem dX4_applyWrite_26 : decode cX4_applyWrite 26 = .ok (.getfield 15, 3) := by decide +kernel
theorem dX4_applyWrite_29 : decode cX4_applyWrite 29 = .ok (.iload_n 3, 1) := by decide +kernel
theorem dX4_applyWrite_30 : decode cX4_applyWrite 30 = .ok (.baload, 1) := by decide +kernel
theorem dX4_applyWrite_31 : decode cX4_applyWrite 31 = .ok (.ifCond .ne 46, 3) := by decide +kernel
theorem dX4_applyWrite_34 : decode cX4_applyWrite 34 = .ok (.iload_n 2, 1) := by decide +kernel
theorem dX4_applyWrite_35 : decode cX4_applyWrite 35 = .ok (.iconst 1, 1) := by decide +kernel
theorem dX4_applyWrite_36 : decode cX4_applyWrite 36 = .ok (.iand, 1) := by decide +kernel
theorem dX4_applyWrite_37 : decode cX4_applyWrite 37 = .ok (.ifCond .ne 4, 3) := by decide +kernel
theorem dX4_applyWrite_40 : decode cX4_applyWrite 40 = .ok (.return_, 1) := by decide +kernel
theorem dX4_applyWrite_41 : decode cX4_applyWrite 41 = .ok (.aload_n 0, 1) := by decide +kernel
theorem dX4_applyWrite_42 : decode cX4_applyWrite 42 = .ok (.getfield 15, 3) := by decide +kernel
theorem dX4_applyWrite_45 : decode cX4_applyWrite 45 = .ok (.iload_n 3, 1) := by decide +kernel
theorem dX4_applyWrite_46 : decode cX4_applyWrite 46 = .ok (.iconst 1, 1) := by decide +kernel
theorem dX4_applyWrite_47 : decode cX4_applyWrite 47 = .ok (.bastore, 1) := by decide +kernel
theorem dX4_applyWrite_48 : decode cX4_applyWrite 48 = .ok (.aload_n 0, 1) := by decide +kernel
theorem dX4_applyWrite_49 : decode cX4_applyWrite 49 = .ok (.getfield 22, 3) := by decide +kernel
theorem dX4_applyWrite_52 : decode cX4_applyWrite 52 = .ok (.iload_n 3, 1) := by decide +kernel
theorem dX4_applyWrite_53 : decode cX4_applyWrite 53 = .ok (.aload_n 0, 1) := by decide +kernel
theorem dX4_applyWrite_54 : decode cX4_applyWrite 54 = .ok (.aload_n 0, 1) := by decide +kernel
theorem dX4_applyWrite_55 : decode cX4_applyWrite 55 = .ok (.getfield 22, 3) := by decide +kernel
theorem dX4_applyWrite_58 : decode cX4_applyWrite 58 = .ok (.iload_n 3, 1) := by decide +kernel
theorem dX4_applyWrite_59 : decode cX4_applyWrite 59 = .ok (.iaload, 1) := by decide +kernel
theorem dX4_applyWrite_60 : decode cX4_applyWrite 60 = .ok (.invokevirtual 100, 3) := by decide +kernel
theorem dX4_applyWrite_63 : decode cX4_applyWrite 63 = .ok (.ifCond .eq 12, 3) := by decide +kernel
theorem dX4_applyWrite_66 : decode cX4_applyWrite 66 = .ok (.aload_n 0, 1) := by decide +kernel
theorem dX4_applyWrite_67 : decode cX4_applyWrite 67 = .ok (.getfield 22, 3) := by decide +kernel
theorem dX4_applyWrite_70 : decode cX4_applyWrite 70 = .ok (.iload_n 3, 1) := by decide +kernel
theorem dX4_applyWrite_71 : decode cX4_applyWrite 71 = .ok (.iaload, 1) := by decide +kernel
theorem dX4_applyWrite_72 : decode cX4_applyWrite 72 = .ok (.goto 4, 3) := by decide +kernel
theorem dX4_applyWrite_75 : decode cX4_applyWrite 75 = .ok (.iconst 0, 1) := by decide +kernel
theorem dX4_applyWrite_76 : decode cX4_applyWrite 76 = .ok (.iastore, 1) := by decide +kernel
theorem dX4_applyWrite_77 : decode cX4_applyWrite 77 = .ok (.aload_n 0, 1) := by decide +kernel
theorem dX4_applyWrite_78 : decode cX4_applyWrite 78 = .ok (.iload_n 3, 1) := by decide +kernel
theorem dX4_applyWrite_79 : decode cX4_applyWrite 79 = .ok (.aload_n 1, 1) := by decide +kernel
theorem dX4_applyWrite_80 : decode cX4_applyWrite 80 = .ok (.invokevirtual 111, 3) := by decide +kernel
theorem dX4_applyWrite_83 : decode cX4_applyWrite 83 = .ok (.return_, 1) := by decide +kernel
theorem dX4_holdRow_0 : decode cX4_holdRow 0 = .ok (.iload_n 1, 1) := by decide +kernel
theorem dX4_holdRow_1 : decode cX4_holdRow 1 = .ok (.iconst 4, 1) := by decide +kernel
theorem dX4_holdRow_2 : decode cX4_holdRow 2 = .ok (.imul, 1) := by decide +kernel
theorem dX4_holdRow_3 : decode cX4_holdRow 3 = .ok (.istore_n 3, 1) := by decide +kernel
theorem dX4_holdRow_4 : decode cX4_holdRow 4 = .ok (.iconst 0, 1) := by decide +kernel
theorem dX4_holdRow_5 : decode cX4_holdRow 5 = .ok (.istore 4, 2) := by decide +kernel
theorem dX4_holdRow_7 : decode cX4_holdRow 7 = .ok (.iconst 0, 1) := by decide +kernel
theorem dX4_holdRow_8 : decode cX4_holdRow 8 = .ok (.istore 5, 2) := by decide +kernel
theorem dX4_holdRow_10 : decode cX4_holdRow 10 = .ok (.iload 5, 2) := by decide +kernel
theorem dX4_holdRow_12 : decode cX4_holdRow 12 = .ok (.aload_n 0, 1) := by decide +kernel
theorem dX4_holdRow_13 : decode cX4_holdRow 13 = .ok (.getfield 34, 3) := by decide +kernel
theorem dX4_holdRow_16 : decode cX4_holdRow 16 = .ok (.iload_n 1, 1) := by decide +kernel
theorem dX4_holdRow_17 : decode cX4_holdRow 17 = .ok (.iaload, 1) := by decide +kernel
theorem dX4_holdRow_18 : decode cX4_holdRow 18 = .ok (.if_icmp .ge 44, 3) := by decide +kernel
theorem dX4_holdRow_21 : decode cX4_holdRow 21 = .ok (.aload_n 2, 1) := by decide +kernel
theorem dX4_holdRow_22 : decode cX4_holdRow 22 = .ok (.aload_n 0, 1) := by decide +kernel
theorem dX4_holdRow_23 : decode cX4_holdRow 23 = .ok (.iload_n 1, 1) := by decide +kernel
theorem dX4_holdRow_24 : decode cX4_holdRow 24 = .ok (.iload 5, 2) := by decide +kernel
theorem dX4_holdRow_26 : decode cX4_holdRow 26 = .ok (.invokevirtual 115, 3) := by decide +kernel
theorem dX4_holdRow_29 : decode cX4_holdRow 29 = .ok (.invokevirtual 119, 3) := by decide +kernel
theorem dX4_holdRow_32 : decode cX4_holdRow 32 = .ok (.ifCond .ne 24, 3) := by decide +kernel
theorem dX4_holdRow_35 : decode cX4_holdRow 35 = .ok (.aload_n 0, 1) := by decide +kernel
theorem dX4_holdRow_36 : decode cX4_holdRow 36 = .ok (.getfield 37, 3) := by decide +kernel
theorem dX4_holdRow_39 : decode cX4_holdRow 39 = .ok (.iload_n 3, 1) := by decide +kernel
theorem dX4_holdRow_40 : decode cX4_holdRow 40 = .ok (.iload 4, 2) := by decide +kernel
theorem dX4_holdRow_42 : decode cX4_holdRow 42 = .ok (.iadd, 1) := by decide +kernel
theorem dX4_holdRow_43 : decode cX4_holdRow 43 = .ok (.aload_n 0, 1) := by decide +kernel
theorem dX4_holdRow_44 : decode cX4_holdRow 44 = .ok (.getfield 37, 3) := by decide +kernel
theorem dX4_holdRow_47 : decode cX4_holdRow 47 = .ok (.iload_n 3, 1) := by decide +kernel
theorem dX4_holdRow_48 : decode cX4_holdRow 48 = .ok (.iload 5, 2) := by decide +kernel
theorem dX4_holdRow_50 : decode cX4_holdRow 50 = .ok (.iadd, 1) := by decide +kernel
theorem dX4_holdRow_51 : decode cX4_holdRow 51 = .ok (.iaload, 1) := by decide +kernel
theorem dX4_holdRow_52 : decode cX4_holdRow 52 = .ok (.iastore, 1) := by decide +kernel
theorem dX4_holdRow_53 : decode cX4_holdRow 53 = .ok (.iinc 4 1, 3) := by decide +kernel
theorem dX4_holdRow_56 : decode cX4_holdRow 56 = .ok (.iinc 5 1, 3) := by decide +kernel
theorem dX4_holdRow_59 : decode cX4_holdRow 59 = .ok (.goto (-49), 3) := by decide +kernel
theorem dX4_holdRow_62 : decode cX4_holdRow 62 = .ok (.iload 4, 2) := by decide +kernel
theorem dX4_holdRow_64 : decode cX4_holdRow 64 = .ok (.iconst 4, 1) := by decide +kernel
theorem dX4_holdRow_65 : decode cX4_holdRow 65 = .ok (.if_icmp .ge 19, 3) := by decide +kernel
theorem dX4_holdRow_68 : decode cX4_holdRow 68 = .ok (.aload_n 0, 1) := by decide +kernel
theorem dX4_holdRow_69 : decode cX4_holdRow 69 = .ok (.getfield 37, 3) := by decide +kernel
theorem dX4_holdRow_72 : decode cX4_holdRow 72 = .ok (.iload_n 3, 1) := by decide +kernel
theorem dX4_holdRow_73 : decode cX4_holdRow 73 = .ok (.iload 4, 2) := by decide +kernel
theorem dX4_holdRow_75 : decode cX4_holdRow 75 = .ok (.iadd, 1) := by decide +kernel
theorem dX4_holdRow_76 : decode cX4_holdRow 76 = .ok (.aload_n 2, 1) := by decide +kernel
theorem dX4_holdRow_77 : decode cX4_holdRow 77 = .ok (.invokevirtual 122, 3) := by decide +kernel
theorem dX4_holdRow_80 : decode cX4_holdRow 80 = .ok (.iastore, 1) := by decide +kernel
theorem dX4_holdRow_81 : decode cX4_holdRow 81 = .ok (.iinc 4 1, 3) := by decide +kernel
theorem dX4_holdRow_84 : decode cX4_holdRow 84 = .ok (.aload_n 0, 1) := by decide +kernel
theorem dX4_holdRow_85 : decode cX4_holdRow 85 = .ok (.getfield 34, 3) := by decide +kernel
theorem dX4_holdRow_88 : decode cX4_holdRow 88 = .ok (.iload_n 1, 1) := by decide +kernel
theorem dX4_holdRow_89 : decode cX4_holdRow 89 = .ok (.iload 4, 2) := by decide +kernel
theorem dX4_holdRow_91 : decode cX4_holdRow 91 = .ok (.iastore, 1) := by decide +kernel
theorem dX4_holdRow_92 : decode cX4_holdRow 92 = .ok (.return_, 1) := by decide +kernel
theorem dX4_nameAll_0 : decode cX4_nameAll 0 = .ok (.iload_n 1, 1) := by decide +kernel
theorem dX4_nameAll_1 : decode cX4_nameAll 1 = .ok (.iconst 2, 1) := by decide +kernel
theorem dX4_nameAll_2 : decode cX4_nameAll 2 = .ok (.iand, 1) := by decide +kernel
theorem dX4_nameAll_3 : decode cX4_nameAll 3 = .ok (.ifCond .eq 7, 3) := by decide +kernel
theorem dX4_nameAll_6 : decode cX4_nameAll 6 = .ok (.iconst 1, 1) := by decide +kernel
theorem dX4_nameAll_7 : decode cX4_nameAll 7 = .ok (.goto 4, 3) := by decide +kernel
theorem dX4_nameAll_10 : decode cX4_nameAll 10 = .ok (.iconst 0, 1) := by decide +kernel
theorem dX4_nameAll_11 : decode cX4_nameAll 11 = .ok (.istore_n 2, 1) := by decide +kernel
theorem dX4_nameAll_12 : decode cX4_nameAll 12 = .ok (.aload_n 0, 1) := by decide +kernel
theorem dX4_nameAll_13 : decode cX4_nameAll 13 = .ok (.iload_n 2, 1) := by decide +kernel
theorem dX4_nameAll_14 : decode cX4_nameAll 14 = .ok (.invokevirtual 126, 3) := by decide +kernel
theorem dX4_nameAll_17 : decode cX4_nameAll 17 = .ok (.istore_n 3, 1) := by decide +kernel
theorem dX4_nameAll_18 : decode cX4_nameAll 18 = .ok (.iconst 1, 1) := by decide +kernel
theorem dX4_nameAll_19 : decode cX4_nameAll 19 = .ok (.istore 4, 2) := by decide +kernel
theorem dX4_nameAll_21 : decode cX4_nameAll 21 = .ok (.iload 4, 2) := by decide +kernel
theorem dX4_nameAll_23 : decode cX4_nameAll 23 = .ok (.bipush 12, 2) := by decide +kernel
theorem dX4_nameAll_25 : decode cX4_nameAll 25 = .ok (.if_icmp .ge 32, 3) := by decide +kernel
theorem dX4_nameAll_28 : decode cX4_nameAll 28 = .ok (.iload_n 3, 1) := by decide +kernel
theorem dX4_nameAll_29 : decode cX4_nameAll 29 = .ok (.bipush (-9), 2) := by decide +kernel
theorem dX4_nameAll_31 : decode cX4_nameAll 31 = .ok (.if_icmp .eq 26, 3) := by decide +kernel
theorem dX4_nameAll_34 : decode cX4_nameAll 34 = .ok (.aload_n 0, 1) := by decide +kernel
theorem dX4_nameAll_35 : decode cX4_nameAll 35 = .ok (.getfield 28, 3) := by decide +kernel
theorem dX4_nameAll_38 : decode cX4_nameAll 38 = .ok (.iload_n 3, 1) := by decide +kernel
theorem dX4_nameAll_39 : decode cX4_nameAll 39 = .ok (.aload_n 0, 1) := by decide +kernel
theorem dX4_nameAll_40 : decode cX4_nameAll 40 = .ok (.iload_n 3, 1) := by decide +kernel
theorem dX4_nameAll_41 : decode cX4_nameAll 41 = .ok (.invokevirtual 130, 3) := by decide +kernel
theorem dX4_nameAll_44 : decode cX4_nameAll 44 = .ok (.iastore, 1) := by decide +kernel
theorem dX4_nameAll_45 : decode cX4_nameAll 45 = .ok (.aload_n 0, 1) := by decide +kernel
theorem dX4_nameAll_46 : decode cX4_nameAll 46 = .ok (.iload_n 2, 1) := by decide +kernel
theorem dX4_nameAll_47 : decode cX4_nameAll 47 = .ok (.invokevirtual 126, 3) := by decide +kernel
theorem dX4_nameAll_50 : decode cX4_nameAll 50 = .ok (.istore_n 3, 1) := by decide +kernel
theorem dX4_nameAll_51 : decode cX4_nameAll 51 = .ok (.iinc 4 1, 3) := by decide +kernel
theorem dX4_nameAll_54 : decode cX4_nameAll 54 = .ok (.goto (-33), 3) := by decide +kernel
theorem dX4_nameAll_57 : decode cX4_nameAll 57 = .ok (.return_, 1) := by decide +kernel
theorem dX4_nextUnnamed_0 : decode cX4_nextUnnamed 0 = .ok (.bipush (-9), 2) := by decide +kernel
theorem dX4_nextUnnamed_2 : decode cX4_nextUnnamed 2 = .ok (.istore_n 2, 1) := by decide +kernel
theorem dX4_nextUnnamed_3 : decode cX4_nextUnnamed 3 = .ok (.iconst 1, 1) := by decide +kernel
theorem dX4_nextUnnamed_4 : decode cX4_nextUnnamed 4 = .ok (.istore_n 3, 1) := by decide +kernel
theorem dX4_nextUnnamed_5 : decode cX4_nextUnnamed 5 = .ok (.iload_n 3, 1) := by decide +kernel
theorem dX4_nextUnnamed_6 : decode cX4_nextUnnamed 6 = .ok (.bipush 12, 2) := by decide +kernel
theorem dX4_nextUnnamed_8 : decode cX4_nextUnnamed 8 = .ok (.if_icmp .ge 60, 3) := by decide +kernel
theorem dX4_nextUnnamed_11 : decode cX4_nextUnnamed 11 = .ok (.aload_n 0, 1) := by decide +kernel
theorem dX4_nextUnnamed_12 : decode cX4_nextUnnamed 12 = .ok (.getfield 15, 3) := by decide +kernel
theorem dX4_nextUnnamed_15 : decode cX4_nextUnnamed 15 = .ok (.iload_n 3, 1) := by decide +kernel
theorem dX4_nextUnnamed_16 : decode cX4_nextUnnamed 16 = .ok (.baload, 1) := by decide +kernel
theorem dX4_nextUnnamed_17 : decode cX4_nextUnnamed 17 = .ok (.ifCond .eq 45, 3) := by decide +kernel
theorem dX4_nextUnnamed_20 : decode cX4_nextUnnamed 20 = .ok (.aload_n 0, 1) := by decide +kernel
theorem dX4_nextUnnamed_21 : decode cX4_nextUnnamed 21 = .ok (.getfield 28, 3) := by decide +kernel
theorem dX4_nextUnnamed_24 : decode cX4_nextUnnamed 24 = .ok (.iload_n 3, 1) := by decide +kernel
theorem dX4_nextUnnamed_25 : decode cX4_nextUnnamed 25 = .ok (.iaload, 1) := by decide +kernel
theorem dX4_nextUnnamed_26 : decode cX4_nextUnnamed 26 = .ok (.iconst (-1), 1) := by decide +kernel
theorem dX4_nextUnnamed_27 : decode cX4_nextUnnamed 27 = .ok (.if_icmp .ne 35, 3) := by decide +kernel
theorem dX4_nextUnnamed_30 : decode cX4_nextUnnamed 30 = .ok (.iload_n 2, 1) := by decide +kernel
theorem dX4_nextUnnamed_31 : decode cX4_nextUnnamed 31 = .ok (.bipush (-9), 2) := by decide +kernel
theorem dX4_nextUnnamed_33 : decode cX4_nextUnnamed 33 = .ok (.if_icmp .eq 27, 3) := by decide +kernel
theorem dX4_nextUnnamed_36 : decode cX4_nextUnnamed 36 = .ok (.aload_n 0, 1) := by decide +kernel
theorem dX4_nextUnnamed_37 : decode cX4_nextUnnamed 37 = .ok (.getfield 31, 3) := by decide +kernel
theorem dX4_nextUnnamed_40 : decode cX4_nextUnnamed 40 = .ok (.iload_n 3, 1) := by decide +kernel
theorem dX4_nextUnnamed_41 : decode cX4_nextUnnamed 41 = .ok (.iaload, 1) := by decide +kernel
theorem dX4_nextUnnamed_42 : decode cX4_nextUnnamed 42 = .ok (.aload_n 0, 1) := by decide +kernel
theorem dX4_nextUnnamed_43 : decode cX4_nextUnnamed 43 = .ok (.getfield 31, 3) := by decide +kernel
theorem dX4_nextUnnamed_46 : decode cX4_nextUnnamed 46 = .ok (.iload_n 2, 1) := by decide +kernel
theorem dX4_nextUnnamed_47 : decode cX4_nextUnnamed 47 = .ok (.iaload, 1) := by decide +kernel
theorem dX4_nextUnnamed_48 : decode cX4_nextUnnamed 48 = .ok (.if_icmp .ge 7, 3) := by decide +kernel
theorem dX4_nextUnnamed_51 : decode cX4_nextUnnamed 51 = .ok (.iconst 1, 1) := by decide +kernel
theorem dX4_nextUnnamed_52 : decode cX4_nextUnnamed 52 = .ok (.goto 4, 3) := by decide +kernel
theorem dX4_nextUnnamed_55 : decode cX4_nextUnnamed 55 = .ok (.iconst 0, 1) := by decide +kernel
theorem dX4_nextUnnamed_56 : decode cX4_nextUnnamed 56 = .ok (.iload_n 1, 1) := by decide +kernel
theorem dX4_nextUnnamed_57 : decode cX4_nextUnnamed 57 = .ok (.if_icmp .ne 5, 3) := by decide +kernel
theorem dX4_nextUnnamed_60 : decode cX4_nextUnnamed 60 = .ok (.iload_n 3, 1) := by decide +kernel
theorem dX4_nextUnnamed_61 : decode cX4_nextUnnamed 61 = .ok (.istore_n 2, 1) := by decide +kernel
theorem dX4_nextUnnamed_62 : decode cX4_nextUnnamed 62 = .ok (.iinc 3 1, 3) := by decide +kernel
theorem dX4_nextUnnamed_65 : decode cX4_nextUnnamed 65 = .ok (.goto (-60), 3) := by decide +kernel
theorem dX4_nextUnnamed_68 : decode cX4_nextUnnamed 68 = .ok (.iload_n 2, 1) := by decide +kernel
theorem dX4_nextUnnamed_69 : decode cX4_nextUnnamed 69 = .ok (.ireturn, 1) := by decide +kernel
theorem dX4_freeNameFor_0 : decode cX4_freeNameFor 0 = .ok (.aload_n 0, 1) := by decide +kernel
theorem dX4_freeNameFor_1 : decode cX4_freeNameFor 1 = .ok (.aload_n 0, 1) := by decide +kernel
theorem dX4_freeNameFor_2 : decode cX4_freeNameFor 2 = .ok (.getfield 22, 3) := by decide +kernel
theorem dX4_freeNameFor_5 : decode cX4_freeNameFor 5 = .ok (.iload_n 1, 1) := by decide +kernel
theorem dX4_freeNameFor_6 : decode cX4_freeNameFor 6 = .ok (.iaload, 1) := by decide +kernel
theorem dX4_freeNameFor_7 : decode cX4_freeNameFor 7 = .ok (.aload_n 0, 1) := by decide +kernel
theorem dX4_freeNameFor_8 : decode cX4_freeNameFor 8 = .ok (.getfield 25, 3) := by decide +kernel
theorem dX4_freeNameFor_11 : decode cX4_freeNameFor 11 = .ok (.iload_n 1, 1) := by decide +kernel
theorem dX4_freeNameFor_12 : decode cX4_freeNameFor 12 = .ok (.iaload, 1) := by decide +kernel
theorem dX4_freeNameFor_13 : decode cX4_freeNameFor 13 = .ok (.invokevirtual 134, 3) := by decide +kernel
theorem dX4_freeNameFor_16 : decode cX4_freeNameFor 16 = .ok (.bipush (-9), 2) := by decide +kernel
theorem dX4_freeNameFor_18 : decode cX4_freeNameFor 18 = .ok (.if_icmp .ne 10, 3) := by decide +kernel
theorem dX4_freeNameFor_21 : decode cX4_freeNameFor 21 = .ok (.aload_n 0, 1) := by decide +kernel
theorem dX4_freeNameFor_22 : decode cX4_freeNameFor 22 = .ok (.getfield 25, 3) := by decide +kernel
theorem dX4_freeNameFor_25 : decode cX4_freeNameFor 25 = .ok (.iload_n 1, 1) := by decide +kernel
theorem dX4_freeNameFor_26 : decode cX4_freeNameFor 26 = .ok (.iaload, 1) := by decide +kernel
theorem dX4_freeNameFor_27 : decode cX4_freeNameFor 27 = .ok (.ireturn, 1) := by decide +kernel
theorem dX4_freeNameFor_28 : decode cX4_freeNameFor 28 = .ok (.bipush 10, 2) := by decide +kernel
theorem dX4_freeNameFor_30 : decode cX4_freeNameFor 30 = .ok (.istore_n 2, 1) := by decide +kernel
theorem dX4_freeNameFor_31 : decode cX4_freeNameFor 31 = .ok (.iload_n 2, 1) := by decide +kernel
theorem dX4_freeNameFor_32 : decode cX4_freeNameFor 32 = .ok (.bipush 22, 2) := by decide +kernel
theorem dX4_freeNameFor_34 : decode cX4_freeNameFor 34 = .ok (.if_icmp .ge 25, 3) := by decide +kernel
theorem dX4_freeNameFor_37 : decode cX4_freeNameFor 37 = .ok (.aload_n 0, 1) := by decide +kernel
theorem dX4_freeNameFor_38 : decode cX4_freeNameFor 38 = .ok (.aload_n 0, 1) := by decide +kernel
theorem dX4_freeNameFor_39 : decode cX4_freeNameFor 39 = .ok (.getfield 22, 3) := by decide +kernel
theorem dX4_freeNameFor_42 : decode cX4_freeNameFor 42 = .ok (.iload_n 1, 1) := by decide +kernel
theorem dX4_freeNameFor_43 : decode cX4_freeNameFor 43 = .ok (.iaload, 1) := by decide +kernel
theorem dX4_freeNameFor_44 : decode cX4_freeNameFor 44 = .ok (.iload_n 2, 1) := by decide +kernel
theorem dX4_freeNameFor_45 : decode cX4_freeNameFor 45 = .ok (.invokevirtual 134, 3) := by decide +kernel
theorem dX4_freeNameFor_48 : decode cX4_freeNameFor 48 = .ok (.bipush (-9), 2) := by decide +kernel
theorem dX4_freeNameFor_50 : decode cX4_freeNameFor 50 = .ok (.if_icmp .eq 9, 3) := by decide +kernel
theorem dX4_freeNameFor_53 : decode cX4_freeNameFor 53 = .ok (.iinc 2 1, 3) := by decide +kernel
theorem dX4_freeNameFor_56 : decode cX4_freeNameFor 56 = .ok (.goto (-25), 3) := by decide +kernel
theorem dX4_freeNameFor_59 : decode cX4_freeNameFor 59 = .ok (.iload_n 2, 1) := by decide +kernel
theorem dX4_freeNameFor_60 : decode cX4_freeNameFor 60 = .ok (.ireturn, 1) := by decide +kernel
theorem dX4_thingNamed_0 : decode cX4_thingNamed 0 = .ok (.iconst 1, 1) := by decide +kernel
theorem dX4_thingNamed_1 : decode cX4_thingNamed 1 = .ok (.istore_n 3, 1) := by decide +kernel
theorem dX4_thingNamed_2 : decode cX4_thingNamed 2 = .ok (.iload_n 3, 1) := by decide +kernel
theorem dX4_thingNamed_3 : decode cX4_thingNamed 3 = .ok (.bipush 12, 2) := by decide +kernel
theorem dX4_thingNamed_5 : decode cX4_thingNamed 5 = .ok (.if_icmp .ge 40, 3) := by decide +kernel
theorem dX4_thingNamed_8 : decode cX4_thingNamed 8 = .ok (.aload_n 0, 1) := by decide +kernel
theorem dX4_thingNamed_9 : decode cX4_thingNamed 9 = .ok (.getfield 15, 3) := by decide +kernel
theorem dX4_thingNamed_12 : decode cX4_thingNamed 12 = .ok (.iload_n 3, 1) := by decide +kernel
theorem dX4_thingNamed_13 : decode cX4_thingNamed 13 = .ok (.baload, 1) := by decide +kernel
theorem dX4_thingNamed_14 : decode cX4_thingNamed 14 = .ok (.ifCond .eq 25, 3) := by decide +kernel
theorem dX4_thingNamed_17 : decode cX4_thingNamed 17 = .ok (.aload_n 0, 1) := by decide +kernel
theorem dX4_thingNamed_18 : decode cX4_thingNamed 18 = .ok (.getfield 22, 3) := by decide +kernel
theorem dX4_thingNamed_21 : decode cX4_thingNamed 21 = .ok (.iload_n 3, 1) := by decide +kernel
theorem dX4_thingNamed_22 : decode cX4_thingNamed 22 = .ok (.iaload, 1) := by decide +kernel
theorem dX4_thingNamed_23 : decode cX4_thingNamed 23 = .ok (.iload_n 1, 1) := by decide +kernel
theorem dX4_thingNamed_24 : decode cX4_thingNamed 24 = .ok (.if_icmp .ne 15, 3) := by decide +kernel
theorem dX4_thingNamed_27 : decode cX4_thingNamed 27 = .ok (.aload_n 0, 1) := by decide +kernel
theorem dX4_thingNamed_28 : decode cX4_thingNamed 28 = .ok (.getfield 28, 3) := by decide +kernel
theorem dX4_thingNamed_31 : decode cX4_thingNamed 31 = .ok (.iload_n 3, 1) := by decide +kernel
theorem dX4_thingNamed_32 : decode cX4_thingNamed 32 = .ok (.iaload, 1) := by decide +kernel
theorem dX4_thingNamed_33 : decode cX4_thingNamed 33 = .ok (.iload_n 2, 1) := by decide +kernel
theorem dX4_thingNamed_34 : decode cX4_thingNamed 34 = .ok (.if_icmp .ne 5, 3) := by decide +kernel
theorem dX4_thingNamed_37 : decode cX4_thingNamed 37 = .ok (.iload_n 3, 1) := by decide +kernel
theorem dX4_thingNamed_38 : decode cX4_thingNamed 38 = .ok (.ireturn, 1) := by decide +kernel
theorem dX4_thingNamed_39 : decode cX4_thingNamed 39 = .ok (.iinc 3 1, 3) := by decide +kernel
theorem dX4_thingNamed_42 : decode cX4_thingNamed 42 = .ok (.goto (-40), 3) := by decide +kernel
theorem dX4_thingNamed_45 : decode cX4_thingNamed 45 = .ok (.bipush (-9), 2) := by decide +kernel
theorem dX4_thingNamed_47 : decode cX4_thingNamed 47 = .ok (.ireturn, 1) := by decide +kernel
theorem dX4_isThere_0 : decode cX4_isThere 0 = .ok (.aload_n 0, 1) := by decide +kernel
theorem dX4_isThere_1 : decode cX4_isThere 1 = .ok (.getfield 15, 3) := by decide +kernel
theorem dX4_isThere_4 : decode cX4_isThere 4 = .ok (.iload_n 1, 1) := by decide +kernel
theorem dX4_isThere_5 : decode cX4_isThere 5 = .ok (.baload, 1) := by decide +kernel
theorem dX4_isThere_6 : decode cX4_isThere 6 = .ok (.ireturn, 1) := by decide +kernel
theorem dX4_isFile_0 : decode cX4_isFile 0 = .ok (.aload_n 0, 1) := by decide +kernel
theorem dX4_isFile_1 : decode cX4_isFile 1 = .ok (.getfield 15, 3) := by decide +kernel
theorem dX4_isFile_4 : decode cX4_isFile 4 = .ok (.iload_n 1, 1) := by decide +kernel
theorem dX4_isFile_5 : decode cX4_isFile 5 = .ok (.baload, 1) := by decide +kernel
theorem dX4_isFile_6 : decode cX4_isFile 6 = .ok (.ifCond .eq 17, 3) := by decide +kernel
theorem dX4_isFile_9 : decode cX4_isFile 9 = .ok (.aload_n 0, 1) := by decide +kernel
theorem dX4_isFile_10 : decode cX4_isFile 10 = .ok (.getfield 18, 3) := by decide +kernel
theorem dX4_isFile_13 : decode cX4_isFile 13 = .ok (.iload_n 1, 1) := by decide +kernel
theorem dX4_isFile_14 : decode cX4_isFile 14 = .ok (.iaload, 1) := by decide +kernel
theorem dX4_isFile_15 : decode cX4_isFile 15 = .ok (.iconst 1, 1) := by decide +kernel
theorem dX4_isFile_16 : decode cX4_isFile 16 = .ok (.if_icmp .ne 7, 3) := by decide +kernel
theorem dX4_isFile_19 : decode cX4_isFile 19 = .ok (.iconst 1, 1) := by decide +kernel
theorem dX4_isFile_20 : decode cX4_isFile 20 = .ok (.goto 4, 3) := by decide +kernel
theorem dX4_isFile_23 : decode cX4_isFile 23 = .ok (.iconst 0, 1) := by decide +kernel
theorem dX4_isFile_24 : decode cX4_isFile 24 = .ok (.ireturn, 1) := by decide +kernel
theorem dX4_isFolder_0 : decode cX4_isFolder 0 = .ok (.aload_n 0, 1) := by decide +kernel
theorem dX4_isFolder_1 : decode cX4_isFolder 1 = .ok (.getfield 15, 3) := by decide +kernel
theorem dX4_isFolder_4 : decode cX4_isFolder 4 = .ok (.iload_n 1, 1) := by decide +kernel
theorem dX4_isFolder_5 : decode cX4_isFolder 5 = .ok (.baload, 1) := by decide +kernel
theorem dX4_isFolder_6 : decode cX4_isFolder 6 = .ok (.ifCond .eq 17, 3) := by decide +kernel
theorem dX4_isFolder_9 : decode cX4_isFolder 9 = .ok (.aload_n 0, 1) := by decide +kernel
theorem dX4_isFolder_10 : decode cX4_isFolder 10 = .ok (.getfield 18, 3) := by decide +kernel
theorem dX4_isFolder_13 : decode cX4_isFolder 13 = .ok (.iload_n 1, 1) := by decide +kernel
theorem dX4_isFolder_14 : decode cX4_isFolder 14 = .ok (.iaload, 1) := by decide +kernel
theorem dX4_isFolder_15 : decode cX4_isFolder 15 = .ok (.iconst 2, 1) := by decide +kernel
theorem dX4_isFolder_16 : decode cX4_isFolder 16 = .ok (.if_icmp .ne 7, 3) := by decide +kernel
theorem dX4_isFolder_19 : decode cX4_isFolder 19 = .ok (.iconst 1, 1) := by decide +kernel
theorem dX4_isFolder_20 : decode cX4_isFolder 20 = .ok (.goto 4, 3) := by decide +kernel
theorem dX4_isFolder_23 : decode cX4_isFolder 23 = .ok (.iconst 0, 1) := by decide +kernel
theorem dX4_isFolder_24 : decode cX4_isFolder 24 = .ok (.ireturn, 1) := by decide +kernel
theorem dX4_mayMove_0 : decode cX4_mayMove 0 = .ok (.iload_n 1, 1) := by decide +kernel
theorem dX4_mayMove_1 : decode cX4_mayMove 1 = .ok (.ifCond .eq 33, 3) := by decide +kernel
theorem dX4_mayMove_4 : decode cX4_mayMove 4 = .ok (.aload_n 0, 1) := by decide +kernel
theorem dX4_mayMove_5 : decode cX4_mayMove 5 = .ok (.getfield 15, 3) := by decide +kernel
theorem dX4_mayMove_8 : decode cX4_mayMove 8 = .ok (.iload_n 1, 1) := by decide +kernel
theorem dX4_mayMove_9 : decode cX4_mayMove 9 = .ok (.baload, 1) := by decide +kernel
theorem dX4_mayMove_10 : decode cX4_mayMove 10 = .ok (.ifCond .eq 24, 3) := by decide +kernel
theorem dX4_mayMove_13 : decode cX4_mayMove 13 = .ok (.aload_n 0, 1) := by decide +kernel
theorem dX4_mayMove_14 : decode cX4_mayMove 14 = .ok (.iload_n 2, 1) := by decide +kernel
theorem dX4_mayMove_15 : decode cX4_mayMove 15 = .ok (.invokevirtual 100, 3) := by decide +kernel
theorem dX4_mayMove_18 : decode cX4_mayMove 18 = .ok (.ifCond .eq 16, 3) := by decide +kernel
theorem dX4_mayMove_21 : decode cX4_mayMove 21 = .ok (.aload_n 0, 1) := by decide +kernel
theorem dX4_mayMove_22 : decode cX4_mayMove 22 = .ok (.iload_n 2, 1) := by decide +kernel
theorem dX4_mayMove_23 : decode cX4_mayMove 23 = .ok (.iload_n 1, 1) := by decide +kernel
theorem dX4_mayMove_24 : decode cX4_mayMove 24 = .ok (.invokevirtual 108, 3) := by decide +kernel
theorem dX4_mayMove_27 : decode cX4_mayMove 27 = .ok (.ifCond .ne 7, 3) := by decide +kernel
theorem dX4_mayMove_30 : decode cX4_mayMove 30 = .ok (.iconst 1, 1) := by decide +kernel
theorem dX4_mayMove_31 : decode cX4_mayMove 31 = .ok (.goto 4, 3) := by decide +kernel
theorem dX4_mayMove_34 : decode cX4_mayMove 34 = .ok (.iconst 0, 1) := by decide +kernel
theorem dX4_mayMove_35 : decode cX4_mayMove 35 = .ok (.ireturn, 1) := by decide +kernel
theorem dX4_isWithin_0 : decode cX4_isWithin 0 = .ok (.iload_n 1, 1) := by decide +kernel
theorem dX4_isWithin_1 : decode cX4_isWithin 1 = .ok (.istore_n 3, 1) := by decide +kernel
theorem dX4_isWithin_2 : decode cX4_isWithin 2 = .ok (.iconst 0, 1) := by decide +kernel
theorem dX4_isWithin_3 : decode cX4_isWithin 3 = .ok (.istore 4, 2) := by decide +kernel
theorem dX4_isWithin_5 : decode cX4_isWithin 5 = .ok (.iload 4, 2) := by decide +kernel
theorem dX4_isWithin_7 : decode cX4_isWithin 7 = .ok (.bipush 12, 2) := by decide +kernel
theorem dX4_isWithin_9 : decode cX4_isWithin 9 = .ok (.if_icmp .ge 25, 3) := by decide +kernel
theorem dX4_isWithin_12 : decode cX4_isWithin 12 = .ok (.iload_n 3, 1) := by decide +kernel
theorem dX4_isWithin_13 : decode cX4_isWithin 13 = .ok (.iload_n 2, 1) := by decide +kernel
theorem dX4_isWithin_14 : decode cX4_isWithin 14 = .ok (.if_icmp .eq 20, 3) := by decide +kernel
theorem dX4_isWithin_17 : decode cX4_isWithin 17 = .ok (.iload_n 3, 1) := by decide +kernel
theorem dX4_isWithin_18 : decode cX4_isWithin 18 = .ok (.ifCond .eq 16, 3) := by decide +kernel
theorem dX4_isWithin_21 : decode cX4_isWithin 21 = .ok (.aload_n 0, 1) := by decide +kernel
theorem dX4_isWithin_22 : decode cX4_isWithin 22 = .ok (.getfield 22, 3) := by decide +kernel
theorem dX4_isWithin_25 : decode cX4_isWithin 25 = .ok (.iload_n 3, 1) := by decide +kernel
theorem dX4_isWithin_26 : decode cX4_isWithin 26 = .ok (.iaload, 1) := by decide +kernel
theorem dX4_isWithin_27 : decode cX4_isWithin 27 = .ok (.istore_n 3, 1) := by decide +kernel
theorem dX4_isWithin_28 : decode cX4_isWithin 28 = .ok (.iinc 4 1, 3) := by decide +kernel
theorem dX4_isWithin_31 : decode cX4_isWithin 31 = .ok (.goto (-26), 3) := by decide +kernel
theorem dX4_isWithin_34 : decode cX4_isWithin 34 = .ok (.iload_n 3, 1) := by decide +kernel
theorem dX4_isWithin_35 : decode cX4_isWithin 35 = .ok (.iload_n 2, 1) := by decide +kernel
theorem dX4_isWithin_36 : decode cX4_isWithin 36 = .ok (.if_icmp .ne 7, 3) := by decide +kernel
theorem dX4_isWithin_39 : decode cX4_isWithin 39 = .ok (.iconst 1, 1) := by decide +kernel
theorem dX4_isWithin_40 : decode cX4_isWithin 40 = .ok (.goto 4, 3) := by decide +kernel
theorem dX4_isWithin_43 : decode cX4_isWithin 43 = .ok (.iconst 0, 1) := by decide +kernel
theorem dX4_isWithin_44 : decode cX4_isWithin 44 = .ok (.ireturn, 1) := by decide +kernel
theorem dX4_rowOf_0 : decode cX4_rowOf 0 = .ok (.aload_n 0, 1) := by decide +kernel
theorem dX4_rowOf_1 : decode cX4_rowOf 1 = .ok (.getfield 40, 3) := by decide +kernel
theorem dX4_rowOf_4 : decode cX4_rowOf 4 = .ok (.getfield 138, 3) := by decide +kernel
theorem dX4_rowOf_7 : decode cX4_rowOf 7 = .ok (.aload_n 0, 1) := by decide +kernel
theorem dX4_rowOf_8 : decode cX4_rowOf 8 = .ok (.getfield 37, 3) := by decide +kernel
theorem dX4_rowOf_11 : decode cX4_rowOf 11 = .ok (.iload_n 1, 1) := by decide +kernel
theorem dX4_rowOf_12 : decode cX4_rowOf 12 = .ok (.iconst 4, 1) := by decide +kernel
theorem dX4_rowOf_13 : decode cX4_rowOf 13 = .ok (.imul, 1) := by decide +kernel
theorem dX4_rowOf_14 : decode cX4_rowOf 14 = .ok (.iload_n 2, 1) := by decide +kernel
theorem dX4_rowOf_15 : decode cX4_rowOf 15 = .ok (.iadd, 1) := by decide +kernel
theorem dX4_rowOf_16 : decode cX4_rowOf 16 = .ok (.iaload, 1) := by decide +kernel
theorem dX4_rowOf_17 : decode cX4_rowOf 17 = .ok (.aaload, 1) := by decide +kernel
theorem dX4_rowOf_18 : decode cX4_rowOf 18 = .ok (.areturn, 1) := by decide +kernel
theorem dX4_childCount_0 : decode cX4_childCount 0 = .ok (.iconst 0, 1) := by decide +kernel
theorem dX4_childCount_1 : decode cX4_childCount 1 = .ok (.istore_n 2, 1) := by decide +kernel
theorem dX4_childCount_2 : decode cX4_childCount 2 = .ok (.iconst 1, 1) := by decide +kernel
theorem dX4_childCount_3 : decode cX4_childCount 3 = .ok (.istore_n 3, 1) := by decide +kernel
theorem dX4_childCount_4 : decode cX4_childCount 4 = .ok (.iload_n 3, 1) := by decide +kernel
theorem dX4_childCount_5 : decode cX4_childCount 5 = .ok (.bipush 12, 2) := by decide +kernel
theorem dX4_childCount_7 : decode cX4_childCount 7 = .ok (.if_icmp .ge 31, 3) := by decide +kernel
theorem dX4_childCount_10 : decode cX4_childCount 10 = .ok (.aload_n 0, 1) := by decide +kernel
theorem dX4_childCount_11 : decode cX4_childCount 11 = .ok (.getfield 15, 3) := by decide +kernel
theorem dX4_childCount_14 : decode cX4_childCount 14 = .ok (.iload_n 3, 1) := by decide +kernel
theorem dX4_childCount_15 : decode cX4_childCount 15 = .ok (.baload, 1) := by decide +kernel
theorem dX4_childCount_16 : decode cX4_childCount 16 = .ok (.ifCond .eq 16, 3) := by decide +kernel
theorem dX4_childCount_19 : decode cX4_childCount 19 = .ok (.aload_n 0, 1) := by decide +kernel
theorem dX4_childCount_20 : decode cX4_childCount 20 = .ok (.getfield 22, 3) := by decide +kernel
theorem dX4_childCount_23 : decode cX4_childCount 23 = .ok (.iload_n 3, 1) := by decide +kernel
theorem dX4_childCount_24 : decode cX4_childCount 24 = .ok (.iaload, 1) := by decide +kernel
theorem dX4_childCount_25 : decode cX4_childCount 25 = .ok (.iload_n 1, 1) := by decide +kernel
theorem dX4_childCount_26 : decode cX4_childCount 26 = .ok (.if_icmp .ne 6, 3) := by decide +kernel
theorem dX4_childCount_29 : decode cX4_childCount 29 = .ok (.iinc 2 1, 3) := by decide +kernel
theorem dX4_childCount_32 : decode cX4_childCount 32 = .ok (.iinc 3 1, 3) := by decide +kernel
theorem dX4_childCount_35 : decode cX4_childCount 35 = .ok (.goto (-31), 3) := by decide +kernel
theorem dX4_childCount_38 : decode cX4_childCount 38 = .ok (.iload_n 2, 1) := by decide +kernel
theorem dX4_childCount_39 : decode cX4_childCount 39 = .ok (.ireturn, 1) := by decide +kernel
theorem dX4_byteCount_0 : decode cX4_byteCount 0 = .ok (.iconst 0, 1) := by decide +kernel
theorem dX4_byteCount_1 : decode cX4_byteCount 1 = .ok (.istore_n 2, 1) := by decide +kernel
theorem dX4_byteCount_2 : decode cX4_byteCount 2 = .ok (.iconst 0, 1) := by decide +kernel
theorem dX4_byteCount_3 : decode cX4_byteCount 3 = .ok (.istore_n 3, 1) := by decide +kernel
theorem dX4_byteCount_4 : decode cX4_byteCount 4 = .ok (.iload_n 3, 1) := by decide +kernel
theorem dX4_byteCount_5 : decode cX4_byteCount 5 = .ok (.aload_n 0, 1) := by decide +kernel
theorem dX4_byteCount_6 : decode cX4_byteCount 6 = .ok (.getfield 34, 3) := by decide +kernel
theorem dX4_byteCount_9 : decode cX4_byteCount 9 = .ok (.iload_n 1, 1) := by decide +kernel
theorem dX4_byteCount_10 : decode cX4_byteCount 10 = .ok (.iaload, 1) := by decide +kernel
theorem dX4_byteCount_11 : decode cX4_byteCount 11 = .ok (.if_icmp .ge 21, 3) := by decide +kernel
theorem dX4_byteCount_14 : decode cX4_byteCount 14 = .ok (.iload_n 2, 1) := by decide +kernel
theorem dX4_byteCount_15 : decode cX4_byteCount 15 = .ok (.aload_n 0, 1) := by decide +kernel
theorem dX4_byteCount_16 : decode cX4_byteCount 16 = .ok (.iload_n 1, 1) := by decide +kernel
theorem dX4_byteCount_17 : decode cX4_byteCount 17 = .ok (.iload_n 3, 1) := by decide +kernel
theorem dX4_byteCount_18 : decode cX4_byteCount 18 = .ok (.invokevirtual 115, 3) := by decide +kernel
theorem dX4_byteCount_21 : decode cX4_byteCount 21 = .ok (.getfield 142, 3) := by decide +kernel
theorem dX4_byteCount_24 : decode cX4_byteCount 24 = .ok (.iadd, 1) := by decide +kernel
theorem dX4_byteCount_25 : decode cX4_byteCount 25 = .ok (.istore_n 2, 1) := by decide +kernel
theorem dX4_byteCount_26 : decode cX4_byteCount 26 = .ok (.iinc 3 1, 3) := by decide +kernel
theorem dX4_byteCount_29 : decode cX4_byteCount 29 = .ok (.goto (-25), 3) := by decide +kernel
theorem dX4_byteCount_32 : decode cX4_byteCount 32 = .ok (.iload_n 2, 1) := by decide +kernel
theorem dX4_byteCount_33 : decode cX4_byteCount 33 = .ok (.ireturn, 1) := by decide +kernel
theorem dX4_byteTotal_0 : decode cX4_byteTotal 0 = .ok (.iconst 0, 1) := by decide +kernel
theorem dX4_byteTotal_1 : decode cX4_byteTotal 1 = .ok (.istore_n 2, 1) := by decide +kernel
theorem dX4_byteTotal_2 : decode cX4_byteTotal 2 = .ok (.iconst 0, 1) := by decide +kernel
theorem dX4_byteTotal_3 : decode cX4_byteTotal 3 = .ok (.istore_n 3, 1) := by decide +kernel
theorem dX4_byteTotal_4 : decode cX4_byteTotal 4 = .ok (.iload_n 3, 1) := by decide +kernel
theorem dX4_byteTotal_5 : decode cX4_byteTotal 5 = .ok (.aload_n 0, 1) := by decide +kernel
theorem dX4_byteTotal_6 : decode cX4_byteTotal 6 = .ok (.getfield 34, 3) := by decide +kernel
theorem dX4_byteTotal_9 : decode cX4_byteTotal 9 = .ok (.iload_n 1, 1) := by decide +kernel
theorem dX4_byteTotal_10 : decode cX4_byteTotal 10 = .ok (.iaload, 1) := by decide +kernel
theorem dX4_byteTotal_11 : decode cX4_byteTotal 11 = .ok (.if_icmp .ge 54, 3) := by decide +kernel
theorem dX4_byteTotal_14 : decode cX4_byteTotal 14 = .ok (.aload_n 0, 1) := by decide +kernel
theorem dX4_byteTotal_15 : decode cX4_byteTotal 15 = .ok (.iload_n 1, 1) := by decide +kernel
theorem dX4_byteTotal_16 : decode cX4_byteTotal 16 = .ok (.iload_n 3, 1) := by decide +kernel
theorem dX4_byteTotal_17 : decode cX4_byteTotal 17 = .ok (.invokevirtual 115, 3) := by decide +kernel
theorem dX4_byteTotal_20 : decode cX4_byteTotal 20 = .ok (.astore 4, 2) := by decide +kernel
theorem dX4_byteTotal_22 : decode cX4_byteTotal 22 = .ok (.iconst 0, 1) := by decide +kernel
theorem dX4_byteTotal_23 : decode cX4_byteTotal 23 = .ok (.istore 5, 2) := by decide +kernel
theorem dX4_byteTotal_25 : decode cX4_byteTotal 25 = .ok (.iload 5, 2) := by decide +kernel
theorem dX4_byteTotal_27 : decode cX4_byteTotal 27 = .ok (.aload 4, 2) := by decide +kernel
theorem dX4_byteTotal_29 : decode cX4_byteTotal 29 = .ok (.getfield 142, 3) := by decide +kernel
theorem dX4_byteTotal_32 : decode cX4_byteTotal 32 = .ok (.if_icmp .ge 27, 3) := by decide +kernel
theorem dX4_byteTotal_35 : decode cX4_byteTotal 35 = .ok (.iload_n 2, 1) := by decide +kernel
theorem dX4_byteTotal_36 : decode cX4_byteTotal 36 = .ok (.aload 4, 2) := by decide +kernel
theorem dX4_byteTotal_38 : decode cX4_byteTotal 38 = .ok (.getfield 145, 3) := by decide +kernel
theorem dX4_byteTotal_41 : decode cX4_byteTotal 41 = .ok (.aload 4, 2) := by decide +kernel
theorem dX4_byteTotal_43 : decode cX4_byteTotal 43 = .ok (.getfield 142, 3) := by decide +kernel
theorem dX4_byteTotal_46 : decode cX4_byteTotal 46 = .ok (.iload 5, 2) := by decide +kernel
theorem dX4_byteTotal_48 : decode cX4_byteTotal 48 = .ok (.invokestatic 149, 3) := by decide +kernel
theorem dX4_byteTotal_51 : decode cX4_byteTotal 51 = .ok (.iadd, 1) := by decide +kernel
theorem dX4_byteTotal_52 : decode cX4_byteTotal 52 = .ok (.istore_n 2, 1) := by decide +kernel
theorem dX4_byteTotal_53 : decode cX4_byteTotal 53 = .ok (.iinc 5 1, 3) := by decide +kernel
theorem dX4_byteTotal_56 : decode cX4_byteTotal 56 = .ok (.goto (-31), 3) := by decide +kernel
theorem dX4_byteTotal_59 : decode cX4_byteTotal 59 = .ok (.iinc 3 1, 3) := by decide +kernel
theorem dX4_byteTotal_62 : decode cX4_byteTotal 62 = .ok (.goto (-58), 3) := by decide +kernel
theorem dX4_byteTotal_65 : decode cX4_byteTotal 65 = .ok (.iload_n 2, 1) := by decide +kernel
theorem dX4_byteTotal_66 : decode cX4_byteTotal 66 = .ok (.ireturn, 1) := by decide +kernel
