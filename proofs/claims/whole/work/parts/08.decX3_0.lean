theorem dX3_init_0 : decode cX3_init 0 = .ok (.aload_n 0, 1) := by decide +kernel
theorem dX3_init_1 : decode cX3_init 1 = .ok (.invokespecial 3, 3) := by decide +kernel
theorem dX3_init_4 : decode cX3_init 4 = .ok (.aload_n 0, 1) := by decide +kernel
theorem dX3_init_5 : decode cX3_init 5 = .ok (.bipush 20, 2) := by decide +kernel
theorem dX3_init_7 : decode cX3_init 7 = .ok (.newarray .int, 2) := by decide +kernel
theorem dX3_init_9 : decode cX3_init 9 = .ok (.putfield 9, 3) := by decide +kernel
theorem dX3_init_12 : decode cX3_init 12 = .ok (.aload_n 0, 1) := by decide +kernel
theorem dX3_init_13 : decode cX3_init 13 = .ok (.bipush 20, 2) := by decide +kernel
theorem dX3_init_15 : decode cX3_init 15 = .ok (.newarray .int, 2) := by decide +kernel
theorem dX3_init_17 : decode cX3_init 17 = .ok (.putfield 15, 3) := by decide +kernel
theorem dX3_init_20 : decode cX3_init 20 = .ok (.aload_n 0, 1) := by decide +kernel
theorem dX3_init_21 : decode cX3_init 21 = .ok (.bipush 20, 2) := by decide +kernel
theorem dX3_init_23 : decode cX3_init 23 = .ok (.newarray .int, 2) := by decide +kernel
theorem dX3_init_25 : decode cX3_init 25 = .ok (.putfield 18, 3) := by decide +kernel
theorem dX3_init_28 : decode cX3_init 28 = .ok (.aload_n 0, 1) := by decide +kernel
theorem dX3_init_29 : decode cX3_init 29 = .ok (.bipush 20, 2) := by decide +kernel
theorem dX3_init_31 : decode cX3_init 31 = .ok (.newarray .int, 2) := by decide +kernel
theorem dX3_init_33 : decode cX3_init 33 = .ok (.putfield 21, 3) := by decide +kernel
theorem dX3_init_36 : decode cX3_init 36 = .ok (.return_, 1) := by decide +kernel
theorem dX3_begin_0 : decode cX3_begin 0 = .ok (.aload_n 0, 1) := by decide +kernel
theorem dX3_begin_1 : decode cX3_begin 1 = .ok (.getfield 9, 3) := by decide +kernel
theorem dX3_begin_4 : decode cX3_begin 4 = .ok (.aload_n 0, 1) := by decide +kernel
theorem dX3_begin_5 : decode cX3_begin 5 = .ok (.getfield 24, 3) := by decide +kernel
theorem dX3_begin_8 : decode cX3_begin 8 = .ok (.iload_n 1, 1) := by decide +kernel
theorem dX3_begin_9 : decode cX3_begin 9 = .ok (.iastore, 1) := by decide +kernel
theorem dX3_begin_10 : decode cX3_begin 10 = .ok (.aload_n 0, 1) := by decide +kernel
theorem dX3_begin_11 : decode cX3_begin 11 = .ok (.getfield 15, 3) := by decide +kernel
theorem dX3_begin_14 : decode cX3_begin 14 = .ok (.aload_n 0, 1) := by decide +kernel
theorem dX3_begin_15 : decode cX3_begin 15 = .ok (.getfield 24, 3) := by decide +kernel
theorem dX3_begin_18 : decode cX3_begin 18 = .ok (.iload_n 2, 1) := by decide +kernel
theorem dX3_begin_19 : decode cX3_begin 19 = .ok (.iastore, 1) := by decide +kernel
theorem dX3_begin_20 : decode cX3_begin 20 = .ok (.aload_n 0, 1) := by decide +kernel
theorem dX3_begin_21 : decode cX3_begin 21 = .ok (.getfield 18, 3) := by decide +kernel
theorem dX3_begin_24 : decode cX3_begin 24 = .ok (.aload_n 0, 1) := by decide +kernel
theorem dX3_begin_25 : decode cX3_begin 25 = .ok (.getfield 24, 3) := by decide +kernel
theorem dX3_begin_28 : decode cX3_begin 28 = .ok (.iload_n 3, 1) := by decide +kernel
theorem dX3_begin_29 : decode cX3_begin 29 = .ok (.iastore, 1) := by decide +kernel
theorem dX3_begin_30 : decode cX3_begin 30 = .ok (.aload_n 0, 1) := by decide +kernel
theorem dX3_begin_31 : decode cX3_begin 31 = .ok (.getfield 21, 3) := by decide +kernel
theorem dX3_begin_34 : decode cX3_begin 34 = .ok (.aload_n 0, 1) := by decide +kernel
theorem dX3_begin_35 : decode cX3_begin 35 = .ok (.getfield 24, 3) := by decide +kernel
theorem dX3_begin_38 : decode cX3_begin 38 = .ok (.bipush (-9), 2) := by decide +kernel
theorem dX3_begin_40 : decode cX3_begin 40 = .ok (.iastore, 1) := by decide +kernel
theorem dX3_begin_41 : decode cX3_begin 41 = .ok (.aload_n 0, 1) := by decide +kernel
theorem dX3_begin_42 : decode cX3_begin 42 = .ok (.dup, 1) := by decide +kernel
theorem dX3_begin_43 : decode cX3_begin 43 = .ok (.getfield 24, 3) := by decide +kernel
theorem dX3_begin_46 : decode cX3_begin 46 = .ok (.iconst 1, 1) := by decide +kernel
theorem dX3_begin_47 : decode cX3_begin 47 = .ok (.iadd, 1) := by decide +kernel
theorem dX3_begin_48 : decode cX3_begin 48 = .ok (.putfield 24, 3) := by decide +kernel
theorem dX3_begin_51 : decode cX3_begin 51 = .ok (.aload_n 0, 1) := by decide +kernel
theorem dX3_begin_52 : decode cX3_begin 52 = .ok (.getfield 24, 3) := by decide +kernel
theorem dX3_begin_55 : decode cX3_begin 55 = .ok (.iconst 1, 1) := by decide +kernel
theorem dX3_begin_56 : decode cX3_begin 56 = .ok (.isub, 1) := by decide +kernel
theorem dX3_begin_57 : decode cX3_begin 57 = .ok (.ireturn, 1) := by decide +kernel
theorem dX3_holds_0 : decode cX3_holds 0 = .ok (.aload_n 0, 1) := by decide +kernel
theorem dX3_holds_1 : decode cX3_holds 1 = .ok (.getfield 21, 3) := by decide +kernel
theorem dX3_holds_4 : decode cX3_holds 4 = .ok (.iload_n 1, 1) := by decide +kernel
theorem dX3_holds_5 : decode cX3_holds 5 = .ok (.iaload, 1) := by decide +kernel
theorem dX3_holds_6 : decode cX3_holds 6 = .ok (.bipush (-9), 2) := by decide +kernel
theorem dX3_holds_8 : decode cX3_holds 8 = .ok (.if_icmp .eq 17, 3) := by decide +kernel
theorem dX3_holds_11 : decode cX3_holds 11 = .ok (.aload_n 0, 1) := by decide +kernel
theorem dX3_holds_12 : decode cX3_holds 12 = .ok (.getfield 21, 3) := by decide +kernel
theorem dX3_holds_15 : decode cX3_holds 15 = .ok (.iload_n 1, 1) := by decide +kernel
theorem dX3_holds_16 : decode cX3_holds 16 = .ok (.iaload, 1) := by decide +kernel
theorem dX3_holds_17 : decode cX3_holds 17 = .ok (.iload_n 3, 1) := by decide +kernel
theorem dX3_holds_18 : decode cX3_holds 18 = .ok (.if_icmp .gt 7, 3) := by decide +kernel
theorem dX3_holds_21 : decode cX3_holds 21 = .ok (.iconst 1, 1) := by decide +kernel
theorem dX3_holds_22 : decode cX3_holds 22 = .ok (.goto 4, 3) := by decide +kernel
theorem dX3_holds_25 : decode cX3_holds 25 = .ok (.iconst 0, 1) := by decide +kernel
theorem dX3_holds_26 : decode cX3_holds 26 = .ok (.istore 4, 2) := by decide +kernel
theorem dX3_holds_28 : decode cX3_holds 28 = .ok (.aload_n 0, 1) := by decide +kernel
theorem dX3_holds_29 : decode cX3_holds 29 = .ok (.getfield 9, 3) := by decide +kernel
theorem dX3_holds_32 : decode cX3_holds 32 = .ok (.iload_n 1, 1) := by decide +kernel
theorem dX3_holds_33 : decode cX3_holds 33 = .ok (.iaload, 1) := by decide +kernel
theorem dX3_holds_34 : decode cX3_holds 34 = .ok (.iload_n 2, 1) := by decide +kernel
theorem dX3_holds_35 : decode cX3_holds 35 = .ok (.if_icmp .ne 22, 3) := by decide +kernel
theorem dX3_holds_38 : decode cX3_holds 38 = .ok (.aload_n 0, 1) := by decide +kernel
theorem dX3_holds_39 : decode cX3_holds 39 = .ok (.getfield 18, 3) := by decide +kernel
theorem dX3_holds_42 : decode cX3_holds 42 = .ok (.iload_n 1, 1) := by decide +kernel
theorem dX3_holds_43 : decode cX3_holds 43 = .ok (.iaload, 1) := by decide +kernel
theorem dX3_holds_44 : decode cX3_holds 44 = .ok (.iload_n 3, 1) := by decide +kernel
theorem dX3_holds_45 : decode cX3_holds 45 = .ok (.if_icmp .gt 12, 3) := by decide +kernel
theorem dX3_holds_48 : decode cX3_holds 48 = .ok (.iload 4, 2) := by decide +kernel
theorem dX3_holds_50 : decode cX3_holds 50 = .ok (.ifCond .ne 7, 3) := by decide +kernel
theorem dX3_holds_53 : decode cX3_holds 53 = .ok (.iconst 1, 1) := by decide +kernel
theorem dX3_holds_54 : decode cX3_holds 54 = .ok (.goto 4, 3) := by decide +kernel
theorem dX3_holds_57 : decode cX3_holds 57 = .ok (.iconst 0, 1) := by decide +kernel
theorem dX3_holds_58 : decode cX3_holds 58 = .ok (.ireturn, 1) := by decide +kernel
theorem dX3_holding_0 : decode cX3_holding 0 = .ok (.iconst 0, 1) := by decide +kernel
theorem dX3_holding_1 : decode cX3_holding 1 = .ok (.istore_n 1, 1) := by decide +kernel
theorem dX3_holding_2 : decode cX3_holding 2 = .ok (.iconst 0, 1) := by decide +kernel
theorem dX3_holding_3 : decode cX3_holding 3 = .ok (.istore_n 2, 1) := by decide +kernel
theorem dX3_holding_4 : decode cX3_holding 4 = .ok (.iload_n 2, 1) := by decide +kernel
theorem dX3_holding_5 : decode cX3_holding 5 = .ok (.aload_n 0, 1) := by decide +kernel
theorem dX3_holding_6 : decode cX3_holding 6 = .ok (.getfield 24, 3) := by decide +kernel
theorem dX3_holding_9 : decode cX3_holding 9 = .ok (.if_icmp .ge 23, 3) := by decide +kernel
theorem dX3_holding_12 : decode cX3_holding 12 = .ok (.aload_n 0, 1) := by decide +kernel
theorem dX3_holding_13 : decode cX3_holding 13 = .ok (.getfield 21, 3) := by decide +kernel
theorem dX3_holding_16 : decode cX3_holding 16 = .ok (.iload_n 2, 1) := by decide +kernel
theorem dX3_holding_17 : decode cX3_holding 17 = .ok (.iaload, 1) := by decide +kernel
theorem dX3_holding_18 : decode cX3_holding 18 = .ok (.bipush (-9), 2) := by decide +kernel
theorem dX3_holding_20 : decode cX3_holding 20 = .ok (.if_icmp .ne 6, 3) := by decide +kernel
theorem dX3_holding_23 : decode cX3_holding 23 = .ok (.iinc 1 1, 3) := by decide +kernel
theorem dX3_holding_26 : decode cX3_holding 26 = .ok (.iinc 2 1, 3) := by decide +kernel
theorem dX3_holding_29 : decode cX3_holding 29 = .ok (.goto (-25), 3) := by decide +kernel
theorem dX3_holding_32 : decode cX3_holding 32 = .ok (.iload_n 1, 1) := by decide +kernel
theorem dX3_holding_33 : decode cX3_holding 33 = .ok (.ireturn, 1) := by decide +kernel
