theorem dX2_init_0 : decode cX2_init 0 = .ok (.aload_n 0, 1) := by decide +kernel
theorem dX2_init_1 : decode cX2_init 1 = .ok (.invokespecial 3, 3) := by decide +kernel
theorem dX2_init_4 : decode cX2_init 4 = .ok (.aload_n 0, 1) := by decide +kernel
theorem dX2_init_5 : decode cX2_init 5 = .ok (.iconst 0, 1) := by decide +kernel
theorem dX2_init_6 : decode cX2_init 6 = .ok (.iload_n 1, 1) := by decide +kernel
theorem dX2_init_7 : decode cX2_init 7 = .ok (.invokestatic 9, 3) := by decide +kernel
theorem dX2_init_10 : decode cX2_init 10 = .ok (.newarray .long, 2) := by decide +kernel
theorem dX2_init_12 : decode cX2_init 12 = .ok (.putfield 15, 3) := by decide +kernel
theorem dX2_init_15 : decode cX2_init 15 = .ok (.aload_n 0, 1) := by decide +kernel
theorem dX2_init_16 : decode cX2_init 16 = .ok (.iconst 0, 1) := by decide +kernel
theorem dX2_init_17 : decode cX2_init 17 = .ok (.iload_n 1, 1) := by decide +kernel
theorem dX2_init_18 : decode cX2_init 18 = .ok (.invokestatic 9, 3) := by decide +kernel
theorem dX2_init_21 : decode cX2_init 21 = .ok (.newarray .int, 2) := by decide +kernel
theorem dX2_init_23 : decode cX2_init 23 = .ok (.putfield 21, 3) := by decide +kernel
theorem dX2_init_26 : decode cX2_init 26 = .ok (.return_, 1) := by decide +kernel
theorem dX2_empty_0 : decode cX2_empty 0 = .ok (.aload_n 0, 1) := by decide +kernel
theorem dX2_empty_1 : decode cX2_empty 1 = .ok (.iconst 0, 1) := by decide +kernel
theorem dX2_empty_2 : decode cX2_empty 2 = .ok (.putfield 25, 3) := by decide +kernel
theorem dX2_empty_5 : decode cX2_empty 5 = .ok (.aload_n 0, 1) := by decide +kernel
theorem dX2_empty_6 : decode cX2_empty 6 = .ok (.iconst 0, 1) := by decide +kernel
theorem dX2_empty_7 : decode cX2_empty 7 = .ok (.putfield 29, 3) := by decide +kernel
theorem dX2_empty_10 : decode cX2_empty 10 = .ok (.return_, 1) := by decide +kernel
theorem dX2_placeOf_0 : decode cX2_placeOf 0 = .ok (.iconst 0, 1) := by decide +kernel
theorem dX2_placeOf_1 : decode cX2_placeOf 1 = .ok (.istore 4, 2) := by decide +kernel
theorem dX2_placeOf_3 : decode cX2_placeOf 3 = .ok (.iload 4, 2) := by decide +kernel
theorem dX2_placeOf_5 : decode cX2_placeOf 5 = .ok (.aload_n 0, 1) := by decide +kernel
theorem dX2_placeOf_6 : decode cX2_placeOf 6 = .ok (.getfield 25, 3) := by decide +kernel
theorem dX2_placeOf_9 : decode cX2_placeOf 9 = .ok (.if_icmp .ge 35, 3) := by decide +kernel
theorem dX2_placeOf_12 : decode cX2_placeOf 12 = .ok (.aload_n 0, 1) := by decide +kernel
theorem dX2_placeOf_13 : decode cX2_placeOf 13 = .ok (.getfield 15, 3) := by decide +kernel
theorem dX2_placeOf_16 : decode cX2_placeOf 16 = .ok (.iload 4, 2) := by decide +kernel
theorem dX2_placeOf_18 : decode cX2_placeOf 18 = .ok (.laload, 1) := by decide +kernel
theorem dX2_placeOf_19 : decode cX2_placeOf 19 = .ok (.lload_n 1, 1) := by decide +kernel
theorem dX2_placeOf_20 : decode cX2_placeOf 20 = .ok (.lcmp, 1) := by decide +kernel
theorem dX2_placeOf_21 : decode cX2_placeOf 21 = .ok (.ifCond .ne 17, 3) := by decide +kernel
theorem dX2_placeOf_24 : decode cX2_placeOf 24 = .ok (.aload_n 0, 1) := by decide +kernel
theorem dX2_placeOf_25 : decode cX2_placeOf 25 = .ok (.getfield 21, 3) := by decide +kernel
theorem dX2_placeOf_28 : decode cX2_placeOf 28 = .ok (.iload 4, 2) := by decide +kernel
theorem dX2_placeOf_30 : decode cX2_placeOf 30 = .ok (.iaload, 1) := by decide +kernel
theorem dX2_placeOf_31 : decode cX2_placeOf 31 = .ok (.iload_n 3, 1) := by decide +kernel
theorem dX2_placeOf_32 : decode cX2_placeOf 32 = .ok (.if_icmp .ne 6, 3) := by decide +kernel
theorem dX2_placeOf_35 : decode cX2_placeOf 35 = .ok (.iload 4, 2) := by decide +kernel
theorem dX2_placeOf_37 : decode cX2_placeOf 37 = .ok (.ireturn, 1) := by decide +kernel
theorem dX2_placeOf_38 : decode cX2_placeOf 38 = .ok (.iinc 4 1, 3) := by decide +kernel
theorem dX2_placeOf_41 : decode cX2_placeOf 41 = .ok (.goto (-38), 3) := by decide +kernel
theorem dX2_placeOf_44 : decode cX2_placeOf 44 = .ok (.bipush (-9), 2) := by decide +kernel
theorem dX2_placeOf_46 : decode cX2_placeOf 46 = .ok (.ireturn, 1) := by decide +kernel
theorem dX2_has_0 : decode cX2_has 0 = .ok (.aload_n 0, 1) := by decide +kernel
theorem dX2_has_1 : decode cX2_has 1 = .ok (.lload_n 1, 1) := by decide +kernel
theorem dX2_has_2 : decode cX2_has 2 = .ok (.iload_n 3, 1) := by decide +kernel
theorem dX2_has_3 : decode cX2_has 3 = .ok (.invokevirtual 32, 3) := by decide +kernel
theorem dX2_has_6 : decode cX2_has 6 = .ok (.bipush (-9), 2) := by decide +kernel
theorem dX2_has_8 : decode cX2_has 8 = .ok (.if_icmp .eq 7, 3) := by decide +kernel
theorem dX2_has_11 : decode cX2_has 11 = .ok (.iconst 1, 1) := by decide +kernel
theorem dX2_has_12 : decode cX2_has 12 = .ok (.goto 4, 3) := by decide +kernel
theorem dX2_has_15 : decode cX2_has 15 = .ok (.iconst 0, 1) := by decide +kernel
theorem dX2_has_16 : decode cX2_has 16 = .ok (.ireturn, 1) := by decide +kernel
theorem dX2_add_0 : decode cX2_add 0 = .ok (.aload_n 0, 1) := by decide +kernel
theorem dX2_add_1 : decode cX2_add 1 = .ok (.lload_n 1, 1) := by decide +kernel
theorem dX2_add_2 : decode cX2_add 2 = .ok (.iload_n 3, 1) := by decide +kernel
theorem dX2_add_3 : decode cX2_add 3 = .ok (.invokevirtual 36, 3) := by decide +kernel
theorem dX2_add_6 : decode cX2_add 6 = .ok (.ifCond .ne 55, 3) := by decide +kernel
theorem dX2_add_9 : decode cX2_add 9 = .ok (.aload_n 0, 1) := by decide +kernel
theorem dX2_add_10 : decode cX2_add 10 = .ok (.getfield 25, 3) := by decide +kernel
theorem dX2_add_13 : decode cX2_add 13 = .ok (.aload_n 0, 1) := by decide +kernel
theorem dX2_add_14 : decode cX2_add 14 = .ok (.getfield 15, 3) := by decide +kernel
theorem dX2_add_17 : decode cX2_add 17 = .ok (.arraylength, 1) := by decide +kernel
theorem dX2_add_18 : decode cX2_add 18 = .ok (.if_icmp .ge 43, 3) := by decide +kernel
theorem dX2_add_21 : decode cX2_add 21 = .ok (.aload_n 0, 1) := by decide +kernel
theorem dX2_add_22 : decode cX2_add 22 = .ok (.getfield 15, 3) := by decide +kernel
theorem dX2_add_25 : decode cX2_add 25 = .ok (.aload_n 0, 1) := by decide +kernel
theorem dX2_add_26 : decode cX2_add 26 = .ok (.getfield 25, 3) := by decide +kernel
theorem dX2_add_29 : decode cX2_add 29 = .ok (.lload_n 1, 1) := by decide +kernel
theorem dX2_add_30 : decode cX2_add 30 = .ok (.lastore, 1) := by decide +kernel
theorem dX2_add_31 : decode cX2_add 31 = .ok (.aload_n 0, 1) := by decide +kernel
theorem dX2_add_32 : decode cX2_add 32 = .ok (.getfield 21, 3) := by decide +kernel
theorem dX2_add_35 : decode cX2_add 35 = .ok (.aload_n 0, 1) := by decide +kernel
theorem dX2_add_36 : decode cX2_add 36 = .ok (.getfield 25, 3) := by decide +kernel
theorem dX2_add_39 : decode cX2_add 39 = .ok (.iload_n 3, 1) := by decide +kernel
theorem dX2_add_40 : decode cX2_add 40 = .ok (.iastore, 1) := by decide +kernel
theorem dX2_add_41 : decode cX2_add 41 = .ok (.aload_n 0, 1) := by decide +kernel
theorem dX2_add_42 : decode cX2_add 42 = .ok (.dup, 1) := by decide +kernel
theorem dX2_add_43 : decode cX2_add 43 = .ok (.getfield 25, 3) := by decide +kernel
theorem dX2_add_46 : decode cX2_add 46 = .ok (.iconst 1, 1) := by decide +kernel
theorem dX2_add_47 : decode cX2_add 47 = .ok (.iadd, 1) := by decide +kernel
theorem dX2_add_48 : decode cX2_add 48 = .ok (.putfield 25, 3) := by decide +kernel
theorem dX2_add_51 : decode cX2_add 51 = .ok (.aload_n 0, 1) := by decide +kernel
theorem dX2_add_52 : decode cX2_add 52 = .ok (.dup, 1) := by decide +kernel
theorem dX2_add_53 : decode cX2_add 53 = .ok (.getfield 29, 3) := by decide +kernel
theorem dX2_add_56 : decode cX2_add 56 = .ok (.iload_n 3, 1) := by decide +kernel
theorem dX2_add_57 : decode cX2_add 57 = .ok (.iadd, 1) := by decide +kernel
theorem dX2_add_58 : decode cX2_add 58 = .ok (.putfield 29, 3) := by decide +kernel
theorem dX2_add_61 : decode cX2_add 61 = .ok (.return_, 1) := by decide +kernel
theorem dX2_removeAt_0 : decode cX2_removeAt 0 = .ok (.aload_n 0, 1) := by decide +kernel
theorem dX2_removeAt_1 : decode cX2_removeAt 1 = .ok (.dup, 1) := by decide +kernel
theorem dX2_removeAt_2 : decode cX2_removeAt 2 = .ok (.getfield 29, 3) := by decide +kernel
theorem dX2_removeAt_5 : decode cX2_removeAt 5 = .ok (.aload_n 0, 1) := by decide +kernel
theorem dX2_removeAt_6 : decode cX2_removeAt 6 = .ok (.getfield 21, 3) := by decide +kernel
theorem dX2_removeAt_9 : decode cX2_removeAt 9 = .ok (.iload_n 1, 1) := by decide +kernel
theorem dX2_removeAt_10 : decode cX2_removeAt 10 = .ok (.iaload, 1) := by decide +kernel
theorem dX2_removeAt_11 : decode cX2_removeAt 11 = .ok (.isub, 1) := by decide +kernel
theorem dX2_removeAt_12 : decode cX2_removeAt 12 = .ok (.putfield 29, 3) := by decide +kernel
theorem dX2_removeAt_15 : decode cX2_removeAt 15 = .ok (.aload_n 0, 1) := by decide +kernel
theorem dX2_removeAt_16 : decode cX2_removeAt 16 = .ok (.dup, 1) := by decide +kernel
theorem dX2_removeAt_17 : decode cX2_removeAt 17 = .ok (.getfield 25, 3) := by decide +kernel
theorem dX2_removeAt_20 : decode cX2_removeAt 20 = .ok (.iconst 1, 1) := by decide +kernel
theorem dX2_removeAt_21 : decode cX2_removeAt 21 = .ok (.isub, 1) := by decide +kernel
theorem dX2_removeAt_22 : decode cX2_removeAt 22 = .ok (.putfield 25, 3) := by decide +kernel
theorem dX2_removeAt_25 : decode cX2_removeAt 25 = .ok (.aload_n 0, 1) := by decide +kernel
theorem dX2_removeAt_26 : decode cX2_removeAt 26 = .ok (.getfield 15, 3) := by decide +kernel
theorem dX2_removeAt_29 : decode cX2_removeAt 29 = .ok (.iload_n 1, 1) := by decide +kernel
theorem dX2_removeAt_30 : decode cX2_removeAt 30 = .ok (.aload_n 0, 1) := by decide +kernel
theorem dX2_removeAt_31 : decode cX2_removeAt 31 = .ok (.getfield 15, 3) := by decide +kernel
theorem dX2_removeAt_34 : decode cX2_removeAt 34 = .ok (.aload_n 0, 1) := by decide +kernel
theorem dX2_removeAt_35 : decode cX2_removeAt 35 = .ok (.getfield 25, 3) := by decide +kernel
theorem dX2_removeAt_38 : decode cX2_removeAt 38 = .ok (.laload, 1) := by decide +kernel
theorem dX2_removeAt_39 : decode cX2_removeAt 39 = .ok (.lastore, 1) := by decide +kernel
theorem dX2_removeAt_40 : decode cX2_removeAt 40 = .ok (.aload_n 0, 1) := by decide +kernel
theorem dX2_removeAt_41 : decode cX2_removeAt 41 = .ok (.getfield 21, 3) := by decide +kernel
theorem dX2_removeAt_44 : decode cX2_removeAt 44 = .ok (.iload_n 1, 1) := by decide +kernel
theorem dX2_removeAt_45 : decode cX2_removeAt 45 = .ok (.aload_n 0, 1) := by decide +kernel
theorem dX2_removeAt_46 : decode cX2_removeAt 46 = .ok (.getfield 21, 3) := by decide +kernel
theorem dX2_removeAt_49 : decode cX2_removeAt 49 = .ok (.aload_n 0, 1) := by decide +kernel
theorem dX2_removeAt_50 : decode cX2_removeAt 50 = .ok (.getfield 25, 3) := by decide +kernel
theorem dX2_removeAt_53 : decode cX2_removeAt 53 = .ok (.iaload, 1) := by decide +kernel
theorem dX2_removeAt_54 : decode cX2_removeAt 54 = .ok (.iastore, 1) := by decide +kernel
theorem dX2_removeAt_55 : decode cX2_removeAt 55 = .ok (.return_, 1) := by decide +kernel
theorem dX2_addCutOf_0 : decode cX2_addCutOf 0 = .ok (.lconst 0, 1) := by decide +kernel
theorem dX2_addCutOf_1 : decode cX2_addCutOf 1 = .ok (.lstore 4, 2) := by decide +kernel
theorem dX2_addCutOf_3 : decode cX2_addCutOf 3 = .ok (.iconst 0, 1) := by decide +kernel
theorem dX2_addCutOf_4 : decode cX2_addCutOf 4 = .ok (.istore 6, 2) := by decide +kernel
theorem dX2_addCutOf_6 : decode cX2_addCutOf 6 = .ok (.iconst 0, 1) := by decide +kernel
theorem dX2_addCutOf_7 : decode cX2_addCutOf 7 = .ok (.istore 7, 2) := by decide +kernel
theorem dX2_addCutOf_9 : decode cX2_addCutOf 9 = .ok (.iload 7, 2) := by decide +kernel
theorem dX2_addCutOf_11 : decode cX2_addCutOf 11 = .ok (.iload_n 3, 1) := by decide +kernel
theorem dX2_addCutOf_12 : decode cX2_addCutOf 12 = .ok (.if_icmp .ge 62, 3) := by decide +kernel
theorem dX2_addCutOf_15 : decode cX2_addCutOf 15 = .ok (.lload_n 1, 1) := by decide +kernel
theorem dX2_addCutOf_16 : decode cX2_addCutOf 16 = .ok (.iload_n 3, 1) := by decide +kernel
theorem dX2_addCutOf_17 : decode cX2_addCutOf 17 = .ok (.iload 7, 2) := by decide +kernel
theorem dX2_addCutOf_19 : decode cX2_addCutOf 19 = .ok (.invokestatic 40, 3) := by decide +kernel
theorem dX2_addCutOf_22 : decode cX2_addCutOf 22 = .ok (.istore 8, 2) := by decide +kernel
theorem dX2_addCutOf_24 : decode cX2_addCutOf 24 = .ok (.lload 4, 2) := by decide +kernel
theorem dX2_addCutOf_26 : decode cX2_addCutOf 26 = .ok (.bipush 8, 2) := by decide +kernel
theorem dX2_addCutOf_28 : decode cX2_addCutOf 28 = .ok (.lshl, 1) := by decide +kernel
theorem dX2_addCutOf_29 : decode cX2_addCutOf 29 = .ok (.iload 8, 2) := by decide +kernel
theorem dX2_addCutOf_31 : decode cX2_addCutOf 31 = .ok (.i2l, 1) := by decide +kernel
theorem dX2_addCutOf_32 : decode cX2_addCutOf 32 = .ok (.lor, 1) := by decide +kernel
theorem dX2_addCutOf_33 : decode cX2_addCutOf 33 = .ok (.lstore 4, 2) := by decide +kernel
theorem dX2_addCutOf_35 : decode cX2_addCutOf 35 = .ok (.iinc 6 1, 3) := by decide +kernel
theorem dX2_addCutOf_38 : decode cX2_addCutOf 38 = .ok (.iload 8, 2) := by decide +kernel
theorem dX2_addCutOf_40 : decode cX2_addCutOf 40 = .ok (.iconst 4, 1) := by decide +kernel
theorem dX2_addCutOf_41 : decode cX2_addCutOf 41 = .ok (.irem, 1) := by decide +kernel
theorem dX2_addCutOf_42 : decode cX2_addCutOf 42 = .ok (.iconst 3, 1) := by decide +kernel
theorem dX2_addCutOf_43 : decode cX2_addCutOf 43 = .ok (.if_icmp .eq 11, 3) := by decide +kernel
theorem dX2_addCutOf_46 : decode cX2_addCutOf 46 = .ok (.iload 7, 2) := by decide +kernel
theorem dX2_addCutOf_48 : decode cX2_addCutOf 48 = .ok (.iload_n 3, 1) := by decide +kernel
theorem dX2_addCutOf_49 : decode cX2_addCutOf 49 = .ok (.iconst 1, 1) := by decide +kernel
theorem dX2_addCutOf_50 : decode cX2_addCutOf 50 = .ok (.isub, 1) := by decide +kernel
theorem dX2_addCutOf_51 : decode cX2_addCutOf 51 = .ok (.if_icmp .ne 17, 3) := by decide +kernel
theorem dX2_addCutOf_54 : decode cX2_addCutOf 54 = .ok (.aload_n 0, 1) := by decide +kernel
theorem dX2_addCutOf_55 : decode cX2_addCutOf 55 = .ok (.lload 4, 2) := by decide +kernel
theorem dX2_addCutOf_57 : decode cX2_addCutOf 57 = .ok (.iload 6, 2) := by decide +kernel
theorem dX2_addCutOf_59 : decode cX2_addCutOf 59 = .ok (.invokevirtual 44, 3) := by decide +kernel
theorem dX2_addCutOf_62 : decode cX2_addCutOf 62 = .ok (.lconst 0, 1) := by decide +kernel
theorem dX2_addCutOf_63 : decode cX2_addCutOf 63 = .ok (.lstore 4, 2) := by decide +kernel
theorem dX2_addCutOf_65 : decode cX2_addCutOf 65 = .ok (.iconst 0, 1) := by decide +kernel
theorem dX2_addCutOf_66 : decode cX2_addCutOf 66 = .ok (.istore 6, 2) := by decide +kernel
theorem dX2_addCutOf_68 : decode cX2_addCutOf 68 = .ok (.iinc 7 1, 3) := by decide +kernel
theorem dX2_addCutOf_71 : decode cX2_addCutOf 71 = .ok (.goto (-62), 3) := by decide +kernel
theorem dX2_addCutOf_74 : decode cX2_addCutOf 74 = .ok (.return_, 1) := by decide +kernel
theorem dX2_addAll_0 : decode cX2_addAll 0 = .ok (.iconst 0, 1) := by decide +kernel
theorem dX2_addAll_1 : decode cX2_addAll 1 = .ok (.istore_n 2, 1) := by decide +kernel
theorem dX2_addAll_2 : decode cX2_addAll 2 = .ok (.iload_n 2, 1) := by decide +kernel
theorem dX2_addAll_3 : decode cX2_addAll 3 = .ok (.aload_n 1, 1) := by decide +kernel
theorem dX2_addAll_4 : decode cX2_addAll 4 = .ok (.getfield 25, 3) := by decide +kernel
theorem dX2_addAll_7 : decode cX2_addAll 7 = .ok (.if_icmp .ge 25, 3) := by decide +kernel
theorem dX2_addAll_10 : decode cX2_addAll 10 = .ok (.aload_n 0, 1) := by decide +kernel
theorem dX2_addAll_11 : decode cX2_addAll 11 = .ok (.aload_n 1, 1) := by decide +kernel
theorem dX2_addAll_12 : decode cX2_addAll 12 = .ok (.getfield 15, 3) := by decide +kernel
theorem dX2_addAll_15 : decode cX2_addAll 15 = .ok (.iload_n 2, 1) := by decide +kernel
theorem dX2_addAll_16 : decode cX2_addAll 16 = .ok (.laload, 1) := by decide +kernel
theorem dX2_addAll_17 : decode cX2_addAll 17 = .ok (.aload_n 1, 1) := by decide +kernel
theorem dX2_addAll_18 : decode cX2_addAll 18 = .ok (.getfield 21, 3) := by decide +kernel
theorem dX2_addAll_21 : decode cX2_addAll 21 = .ok (.iload_n 2, 1) := by decide +kernel
theorem dX2_addAll_22 : decode cX2_addAll 22 = .ok (.iaload, 1) := by decide +kernel
theorem dX2_addAll_23 : decode cX2_addAll 23 = .ok (.invokevirtual 44, 3) := by decide +kernel
theorem dX2_addAll_26 : decode cX2_addAll 26 = .ok (.iinc 2 1, 3) := by decide +kernel
theorem dX2_addAll_29 : decode cX2_addAll 29 = .ok (.goto (-27), 3) := by decide +kernel
theorem dX2_addAll_32 : decode cX2_addAll 32 = .ok (.return_, 1) := by decide +kernel
theorem dX2_removeAll_0 : decode cX2_removeAll 0 = .ok (.aload_n 0, 1) := by decide +kernel
theorem dX2_removeAll_1 : decode cX2_removeAll 1 = .ok (.getfield 25, 3) := by decide +kernel
theorem dX2_removeAll_4 : decode cX2_removeAll 4 = .ok (.iconst 1, 1) := by decide +kernel
theorem dX2_removeAll_5 : decode cX2_removeAll 5 = .ok (.isub, 1) := by decide +kernel
theorem dX2_removeAll_6 : decode cX2_removeAll 6 = .ok (.istore_n 2, 1) := by decide +kernel
theorem dX2_removeAll_7 : decode cX2_removeAll 7 = .ok (.iload_n 2, 1) := by decide +kernel
theorem dX2_removeAll_8 : decode cX2_removeAll 8 = .ok (.ifCond .lt 33, 3) := by decide +kernel
theorem dX2_removeAll_11 : decode cX2_removeAll 11 = .ok (.aload_n 1, 1) := by decide +kernel
theorem dX2_removeAll_12 : decode cX2_removeAll 12 = .ok (.aload_n 0, 1) := by decide +kernel
theorem dX2_removeAll_13 : decode cX2_removeAll 13 = .ok (.getfield 15, 3) := by decide +kernel
theorem dX2_removeAll_16 : decode cX2_removeAll 16 = .ok (.iload_n 2, 1) := by decide +kernel
theorem dX2_removeAll_17 : decode cX2_removeAll 17 = .ok (.laload, 1) := by decide +kernel
theorem dX2_removeAll_18 : decode cX2_removeAll 18 = .ok (.aload_n 0, 1) := by decide +kernel
theorem dX2_removeAll_19 : decode cX2_removeAll 19 = .ok (.getfield 21, 3) := by decide +kernel
theorem dX2_removeAll_22 : decode cX2_removeAll 22 = .ok (.iload_n 2, 1) := by decide +kernel
theorem dX2_removeAll_23 : decode cX2_removeAll 23 = .ok (.iaload, 1) := by decide +kernel
theorem dX2_removeAll_24 : decode cX2_removeAll 24 = .ok (.invokevirtual 36, 3) := by decide +kernel
theorem dX2_removeAll_27 : decode cX2_removeAll 27 = .ok (.ifCond .eq 8, 3) := by decide +kernel
theorem dX2_removeAll_30 : decode cX2_removeAll 30 = .ok (.aload_n 0, 1) := by decide +kernel
theorem dX2_removeAll_31 : decode cX2_removeAll 31 = .ok (.iload_n 2, 1) := by decide +kernel
theorem dX2_removeAll_32 : decode cX2_removeAll 32 = .ok (.invokevirtual 48, 3) := by decide +kernel
theorem dX2_removeAll_35 : decode cX2_removeAll 35 = .ok (.iinc 2 (-1), 3) := by decide +kernel
theorem dX2_removeAll_38 : decode cX2_removeAll 38 = .ok (.goto (-31), 3) := by decide +kernel
theorem dX2_removeAll_41 : decode cX2_removeAll 41 = .ok (.return_, 1) := by decide +kernel
theorem dX2_keepOnly_0 : decode cX2_keepOnly 0 = .ok (.aload_n 0, 1) := by decide +kernel
theorem dX2_keepOnly_1 : decode cX2_keepOnly 1 = .ok (.getfield 25, 3) := by decide +kernel
theorem dX2_keepOnly_4 : decode cX2_keepOnly 4 = .ok (.iconst 1, 1) := by decide +kernel
theorem dX2_keepOnly_5 : decode cX2_keepOnly 5 = .ok (.isub, 1) := by decide +kernel
theorem dX2_keepOnly_6 : decode cX2_keepOnly 6 = .ok (.istore_n 2, 1) := by decide +kernel
theorem dX2_keepOnly_7 : decode cX2_keepOnly 7 = .ok (.iload_n 2, 1) := by decide +kernel
theorem dX2_keepOnly_8 : decode cX2_keepOnly 8 = .ok (.ifCond .lt 33, 3) := by decide +kernel
theorem dX2_keepOnly_11 : decode cX2_keepOnly 11 = .ok (.aload_n 1, 1) := by decide +kernel
theorem dX2_keepOnly_12 : decode cX2_keepOnly 12 = .ok (.aload_n 0, 1) := by decide +kernel
theorem dX2_keepOnly_13 : decode cX2_keepOnly 13 = .ok (.getfield 15, 3) := by decide +kernel
theorem dX2_keepOnly_16 : decode cX2_keepOnly 16 = .ok (.iload_n 2, 1) := by decide +kernel
theorem dX2_keepOnly_17 : decode cX2_keepOnly 17 = .ok (.laload, 1) := by decide +kernel
theorem dX2_keepOnly_18 : decode cX2_keepOnly 18 = .ok (.aload_n 0, 1) := by decide +kernel
theorem dX2_keepOnly_19 : decode cX2_keepOnly 19 = .ok (.getfield 21, 3) := by decide +kernel
theorem dX2_keepOnly_22 : decode cX2_keepOnly 22 = .ok (.iload_n 2, 1) := by decide +kernel
theorem dX2_keepOnly_23 : decode cX2_keepOnly 23 = .ok (.iaload, 1) := by decide +kernel
theorem dX2_keepOnly_24 : decode cX2_keepOnly 24 = .ok (.invokevirtual 36, 3) := by decide +kernel
theorem dX2_keepOnly_27 : decode cX2_keepOnly 27 = .ok (.ifCond .ne 8, 3) := by decide +kernel
theorem dX2_keepOnly_30 : decode cX2_keepOnly 30 = .ok (.aload_n 0, 1) := by decide +kernel
theorem dX2_keepOnly_31 : decode cX2_keepOnly 31 = .ok (.iload_n 2, 1) := by decide +kernel
theorem dX2_keepOnly_32 : decode cX2_keepOnly 32 = .ok (.invokevirtual 48, 3) := by decide +kernel
theorem dX2_keepOnly_35 : decode cX2_keepOnly 35 = .ok (.iinc 2 (-1), 3) := by decide +kernel
theorem dX2_keepOnly_38 : decode cX2_keepOnly 38 = .ok (.goto (-31), 3) := by decide +kernel
theorem dX2_keepOnly_41 : decode cX2_keepOnly 41 = .ok (.return_, 1) := by decide +kernel
theorem dX2_bytesNotIn_0 : decode cX2_bytesNotIn 0 = .ok (.iconst 0, 1) := by decide +kernel
theorem dX2_bytesNotIn_1 : decode cX2_bytesNotIn 1 = .ok (.istore_n 2, 1) := by decide +kernel
theorem dX2_bytesNotIn_2 : decode cX2_bytesNotIn 2 = .ok (.iconst 0, 1) := by decide +kernel
theorem dX2_bytesNotIn_3 : decode cX2_bytesNotIn 3 = .ok (.istore_n 3, 1) := by decide +kernel
theorem dX2_bytesNotIn_4 : decode cX2_bytesNotIn 4 = .ok (.iload_n 3, 1) := by decide +kernel
theorem dX2_bytesNotIn_5 : decode cX2_bytesNotIn 5 = .ok (.aload_n 0, 1) := by decide +kernel
theorem dX2_bytesNotIn_6 : decode cX2_bytesNotIn 6 = .ok (.getfield 25, 3) := by decide +kernel
theorem dX2_bytesNotIn_9 : decode cX2_bytesNotIn 9 = .ok (.if_icmp .ge 37, 3) := by decide +kernel
theorem dX2_bytesNotIn_12 : decode cX2_bytesNotIn 12 = .ok (.aload_n 1, 1) := by decide +kernel
theorem dX2_bytesNotIn_13 : decode cX2_bytesNotIn 13 = .ok (.aload_n 0, 1) := by decide +kernel
theorem dX2_bytesNotIn_14 : decode cX2_bytesNotIn 14 = .ok (.getfield 15, 3) := by decide +kernel
theorem dX2_bytesNotIn_17 : decode cX2_bytesNotIn 17 = .ok (.iload_n 3, 1) := by decide +kernel
theorem dX2_bytesNotIn_18 : decode cX2_bytesNotIn 18 = .ok (.laload, 1) := by decide +kernel
theorem dX2_bytesNotIn_19 : decode cX2_bytesNotIn 19 = .ok (.aload_n 0, 1) := by decide +kernel
theorem dX2_bytesNotIn_20 : decode cX2_bytesNotIn 20 = .ok (.getfield 21, 3) := by decide +kernel
theorem dX2_bytesNotIn_23 : decode cX2_bytesNotIn 23 = .ok (.iload_n 3, 1) := by decide +kernel
theorem dX2_bytesNotIn_24 : decode cX2_bytesNotIn 24 = .ok (.iaload, 1) := by decide +kernel
theorem dX2_bytesNotIn_25 : decode cX2_bytesNotIn 25 = .ok (.invokevirtual 36, 3) := by decide +kernel
theorem dX2_bytesNotIn_28 : decode cX2_bytesNotIn 28 = .ok (.ifCond .ne 12, 3) := by decide +kernel
theorem dX2_bytesNotIn_31 : decode cX2_bytesNotIn 31 = .ok (.iload_n 2, 1) := by decide +kernel
theorem dX2_bytesNotIn_32 : decode cX2_bytesNotIn 32 = .ok (.aload_n 0, 1) := by decide +kernel
theorem dX2_bytesNotIn_33 : decode cX2_bytesNotIn 33 = .ok (.getfield 21, 3) := by decide +kernel
theorem dX2_bytesNotIn_36 : decode cX2_bytesNotIn 36 = .ok (.iload_n 3, 1) := by decide +kernel
theorem dX2_bytesNotIn_37 : decode cX2_bytesNotIn 37 = .ok (.iaload, 1) := by decide +kernel
theorem dX2_bytesNotIn_38 : decode cX2_bytesNotIn 38 = .ok (.iadd, 1) := by decide +kernel
theorem dX2_bytesNotIn_39 : decode cX2_bytesNotIn 39 = .ok (.istore_n 2, 1) := by decide +kernel
theorem dX2_bytesNotIn_40 : decode cX2_bytesNotIn 40 = .ok (.iinc 3 1, 3) := by decide +kernel
theorem dX2_bytesNotIn_43 : decode cX2_bytesNotIn 43 = .ok (.goto (-39), 3) := by decide +kernel
theorem dX2_bytesNotIn_46 : decode cX2_bytesNotIn 46 = .ok (.iload_n 2, 1) := by decide +kernel
theorem dX2_bytesNotIn_47 : decode cX2_bytesNotIn 47 = .ok (.ireturn, 1) := by decide +kernel
