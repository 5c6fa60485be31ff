theorem dX0_init_0 : decode cX0_init 0 = .ok (.aload_n 0, 1) := by decide +kernel
theorem dX0_init_1 : decode cX0_init 1 = .ok (.invokespecial 3, 3) := by decide +kernel
theorem dX0_init_4 : decode cX0_init 4 = .ok (.aload_n 0, 1) := by decide +kernel
theorem dX0_init_5 : decode cX0_init 5 = .ok (.iconst 4, 1) := by decide +kernel
theorem dX0_init_6 : decode cX0_init 6 = .ok (.newarray .int, 2) := by decide +kernel
theorem dX0_init_8 : decode cX0_init 8 = .ok (.putfield 9, 3) := by decide +kernel
theorem dX0_init_11 : decode cX0_init 11 = .ok (.return_, 1) := by decide +kernel
theorem dX0_slot_0 : decode cX0_slot 0 = .ok (.aload_n 0, 1) := by decide +kernel
theorem dX0_slot_1 : decode cX0_slot 1 = .ok (.getfield 15, 3) := by decide +kernel
theorem dX0_slot_4 : decode cX0_slot 4 = .ok (.bipush 20, 2) := by decide +kernel
theorem dX0_slot_6 : decode cX0_slot 6 = .ok (.imul, 1) := by decide +kernel
theorem dX0_slot_7 : decode cX0_slot 7 = .ok (.aload_n 0, 1) := by decide +kernel
theorem dX0_slot_8 : decode cX0_slot 8 = .ok (.getfield 19, 3) := by decide +kernel
theorem dX0_slot_11 : decode cX0_slot 11 = .ok (.iadd, 1) := by decide +kernel
theorem dX0_slot_12 : decode cX0_slot 12 = .ok (.ireturn, 1) := by decide +kernel
theorem dX0_groundSize_0 : decode cX0_groundSize 0 = .ok (.iconst 0, 1) := by decide +kernel
theorem dX0_groundSize_1 : decode cX0_groundSize 1 = .ok (.istore_n 1, 1) := by decide +kernel
theorem dX0_groundSize_2 : decode cX0_groundSize 2 = .ok (.iconst 0, 1) := by decide +kernel
theorem dX0_groundSize_3 : decode cX0_groundSize 3 = .ok (.istore_n 2, 1) := by decide +kernel
theorem dX0_groundSize_4 : decode cX0_groundSize 4 = .ok (.iload_n 2, 1) := by decide +kernel
theorem dX0_groundSize_5 : decode cX0_groundSize 5 = .ok (.iconst 4, 1) := by decide +kernel
theorem dX0_groundSize_6 : decode cX0_groundSize 6 = .ok (.if_icmp .ge 18, 3) := by decide +kernel
theorem dX0_groundSize_9 : decode cX0_groundSize 9 = .ok (.iload_n 1, 1) := by decide +kernel
theorem dX0_groundSize_10 : decode cX0_groundSize 10 = .ok (.aload_n 0, 1) := by decide +kernel
theorem dX0_groundSize_11 : decode cX0_groundSize 11 = .ok (.getfield 9, 3) := by decide +kernel
theorem dX0_groundSize_14 : decode cX0_groundSize 14 = .ok (.iload_n 2, 1) := by decide +kernel
theorem dX0_groundSize_15 : decode cX0_groundSize 15 = .ok (.iaload, 1) := by decide +kernel
theorem dX0_groundSize_16 : decode cX0_groundSize 16 = .ok (.iadd, 1) := by decide +kernel
theorem dX0_groundSize_17 : decode cX0_groundSize 17 = .ok (.istore_n 1, 1) := by decide +kernel
theorem dX0_groundSize_18 : decode cX0_groundSize 18 = .ok (.iinc 2 1, 3) := by decide +kernel
theorem dX0_groundSize_21 : decode cX0_groundSize 21 = .ok (.goto (-17), 3) := by decide +kernel
theorem dX0_groundSize_24 : decode cX0_groundSize 24 = .ok (.iload_n 1, 1) := by decide +kernel
theorem dX0_groundSize_25 : decode cX0_groundSize 25 = .ok (.ireturn, 1) := by decide +kernel
theorem dX0_standsOn_0 : decode cX0_standsOn 0 = .ok (.aload_n 1, 1) := by decide +kernel
theorem dX0_standsOn_1 : decode cX0_standsOn 1 = .ok (.getfield 19, 3) := by decide +kernel
theorem dX0_standsOn_4 : decode cX0_standsOn 4 = .ok (.aload_n 0, 1) := by decide +kernel
theorem dX0_standsOn_5 : decode cX0_standsOn 5 = .ok (.getfield 9, 3) := by decide +kernel
theorem dX0_standsOn_8 : decode cX0_standsOn 8 = .ok (.aload_n 1, 1) := by decide +kernel
theorem dX0_standsOn_9 : decode cX0_standsOn 9 = .ok (.getfield 15, 3) := by decide +kernel
theorem dX0_standsOn_12 : decode cX0_standsOn 12 = .ok (.iaload, 1) := by decide +kernel
theorem dX0_standsOn_13 : decode cX0_standsOn 13 = .ok (.if_icmp .ge 7, 3) := by decide +kernel
theorem dX0_standsOn_16 : decode cX0_standsOn 16 = .ok (.iconst 1, 1) := by decide +kernel
theorem dX0_standsOn_17 : decode cX0_standsOn 17 = .ok (.goto 4, 3) := by decide +kernel
theorem dX0_standsOn_20 : decode cX0_standsOn 20 = .ok (.iconst 0, 1) := by decide +kernel
theorem dX0_standsOn_21 : decode cX0_standsOn 21 = .ok (.ireturn, 1) := by decide +kernel
theorem dX0_isAheadOf_0 : decode cX0_isAheadOf 0 = .ok (.aload_n 0, 1) := by decide +kernel
theorem dX0_isAheadOf_1 : decode cX0_isAheadOf 1 = .ok (.getfield 22, 3) := by decide +kernel
theorem dX0_isAheadOf_4 : decode cX0_isAheadOf 4 = .ok (.aload_n 1, 1) := by decide +kernel
theorem dX0_isAheadOf_5 : decode cX0_isAheadOf 5 = .ok (.getfield 22, 3) := by decide +kernel
theorem dX0_isAheadOf_8 : decode cX0_isAheadOf 8 = .ok (.if_icmp .lt 25, 3) := by decide +kernel
theorem dX0_isAheadOf_11 : decode cX0_isAheadOf 11 = .ok (.aload_n 0, 1) := by decide +kernel
theorem dX0_isAheadOf_12 : decode cX0_isAheadOf 12 = .ok (.getfield 22, 3) := by decide +kernel
theorem dX0_isAheadOf_15 : decode cX0_isAheadOf 15 = .ok (.aload_n 1, 1) := by decide +kernel
theorem dX0_isAheadOf_16 : decode cX0_isAheadOf 16 = .ok (.getfield 22, 3) := by decide +kernel
theorem dX0_isAheadOf_19 : decode cX0_isAheadOf 19 = .ok (.if_icmp .ne 18, 3) := by decide +kernel
theorem dX0_isAheadOf_22 : decode cX0_isAheadOf 22 = .ok (.aload_n 0, 1) := by decide +kernel
theorem dX0_isAheadOf_23 : decode cX0_isAheadOf 23 = .ok (.getfield 15, 3) := by decide +kernel
theorem dX0_isAheadOf_26 : decode cX0_isAheadOf 26 = .ok (.aload_n 1, 1) := by decide +kernel
theorem dX0_isAheadOf_27 : decode cX0_isAheadOf 27 = .ok (.getfield 15, 3) := by decide +kernel
theorem dX0_isAheadOf_30 : decode cX0_isAheadOf 30 = .ok (.if_icmp .ge 7, 3) := by decide +kernel
theorem dX0_isAheadOf_33 : decode cX0_isAheadOf 33 = .ok (.iconst 1, 1) := by decide +kernel
theorem dX0_isAheadOf_34 : decode cX0_isAheadOf 34 = .ok (.goto 4, 3) := by decide +kernel
theorem dX0_isAheadOf_37 : decode cX0_isAheadOf 37 = .ok (.iconst 0, 1) := by decide +kernel
theorem dX0_isAheadOf_38 : decode cX0_isAheadOf 38 = .ok (.ireturn, 1) := by decide +kernel
