theorem dX0_init_0 : decode cX0_init 0 = .ok (.aload_n 0, 1) := by decide +kernel
theorem dX0_init_1 : decode cX0_init 1 = .ok (.invokespecial 3, 3) := by decide +kernel
theorem dX0_init_4 : decode cX0_init 4 = .ok (.aload_n 0, 1) := by decide +kernel
theorem dX0_init_5 : decode cX0_init 5 = .ok (.bipush 21, 2) := by decide +kernel
theorem dX0_init_7 : decode cX0_init 7 = .ok (.newarray .int, 2) := by decide +kernel
theorem dX0_init_9 : decode cX0_init 9 = .ok (.putfield 9, 3) := by decide +kernel
theorem dX0_init_12 : decode cX0_init 12 = .ok (.aload_n 0, 1) := by decide +kernel
theorem dX0_init_13 : decode cX0_init 13 = .ok (.bipush 21, 2) := by decide +kernel
theorem dX0_init_15 : decode cX0_init 15 = .ok (.newarray .int, 2) := by decide +kernel
theorem dX0_init_17 : decode cX0_init 17 = .ok (.putfield 15, 3) := by decide +kernel
theorem dX0_init_20 : decode cX0_init 20 = .ok (.return_, 1) := by decide +kernel
theorem dX0_pressuresOf_0 : decode cX0_pressuresOf 0 = .ok (.iload_n 1, 1) := by decide +kernel
theorem dX0_pressuresOf_1 : decode cX0_pressuresOf 1 = .ok (.ifCond .ne 10, 3) := by decide +kernel
theorem dX0_pressuresOf_4 : decode cX0_pressuresOf 4 = .ok (.aload_n 0, 1) := by decide +kernel
theorem dX0_pressuresOf_5 : decode cX0_pressuresOf 5 = .ok (.getfield 9, 3) := by decide +kernel
theorem dX0_pressuresOf_8 : decode cX0_pressuresOf 8 = .ok (.goto 7, 3) := by decide +kernel
theorem dX0_pressuresOf_11 : decode cX0_pressuresOf 11 = .ok (.aload_n 0, 1) := by decide +kernel
theorem dX0_pressuresOf_12 : decode cX0_pressuresOf 12 = .ok (.getfield 15, 3) := by decide +kernel
theorem dX0_pressuresOf_15 : decode cX0_pressuresOf 15 = .ok (.areturn, 1) := by decide +kernel
theorem dX0_differenceAt_0 : decode cX0_differenceAt 0 = .ok (.aload_n 0, 1) := by decide +kernel
theorem dX0_differenceAt_1 : decode cX0_differenceAt 1 = .ok (.getfield 9, 3) := by decide +kernel
theorem dX0_differenceAt_4 : decode cX0_differenceAt 4 = .ok (.iload_n 1, 1) := by decide +kernel
theorem dX0_differenceAt_5 : decode cX0_differenceAt 5 = .ok (.iaload, 1) := by decide +kernel
theorem dX0_differenceAt_6 : decode cX0_differenceAt 6 = .ok (.aload_n 0, 1) := by decide +kernel
theorem dX0_differenceAt_7 : decode cX0_differenceAt 7 = .ok (.getfield 15, 3) := by decide +kernel
theorem dX0_differenceAt_10 : decode cX0_differenceAt 10 = .ok (.iload_n 1, 1) := by decide +kernel
theorem dX0_differenceAt_11 : decode cX0_differenceAt 11 = .ok (.iaload, 1) := by decide +kernel
theorem dX0_differenceAt_12 : decode cX0_differenceAt 12 = .ok (.isub, 1) := by decide +kernel
theorem dX0_differenceAt_13 : decode cX0_differenceAt 13 = .ok (.ireturn, 1) := by decide +kernel
theorem dX0_wholeArea_0 : decode cX0_wholeArea 0 = .ok (.iconst 0, 1) := by decide +kernel
theorem dX0_wholeArea_1 : decode cX0_wholeArea 1 = .ok (.istore_n 1, 1) := by decide +kernel
theorem dX0_wholeArea_2 : decode cX0_wholeArea 2 = .ok (.iconst 0, 1) := by decide +kernel
theorem dX0_wholeArea_3 : decode cX0_wholeArea 3 = .ok (.istore_n 2, 1) := by decide +kernel
theorem dX0_wholeArea_4 : decode cX0_wholeArea 4 = .ok (.iload_n 2, 1) := by decide +kernel
theorem dX0_wholeArea_5 : decode cX0_wholeArea 5 = .ok (.bipush 20, 2) := by decide +kernel
theorem dX0_wholeArea_7 : decode cX0_wholeArea 7 = .ok (.if_icmp .ge 25, 3) := by decide +kernel
theorem dX0_wholeArea_10 : decode cX0_wholeArea 10 = .ok (.iload_n 1, 1) := by decide +kernel
theorem dX0_wholeArea_11 : decode cX0_wholeArea 11 = .ok (.aload_n 0, 1) := by decide +kernel
theorem dX0_wholeArea_12 : decode cX0_wholeArea 12 = .ok (.iload_n 2, 1) := by decide +kernel
theorem dX0_wholeArea_13 : decode cX0_wholeArea 13 = .ok (.invokevirtual 18, 3) := by decide +kernel
theorem dX0_wholeArea_16 : decode cX0_wholeArea 16 = .ok (.aload_n 0, 1) := by decide +kernel
theorem dX0_wholeArea_17 : decode cX0_wholeArea 17 = .ok (.iload_n 2, 1) := by decide +kernel
theorem dX0_wholeArea_18 : decode cX0_wholeArea 18 = .ok (.iconst 1, 1) := by decide +kernel
theorem dX0_wholeArea_19 : decode cX0_wholeArea 19 = .ok (.iadd, 1) := by decide +kernel
theorem dX0_wholeArea_20 : decode cX0_wholeArea 20 = .ok (.invokevirtual 18, 3) := by decide +kernel
theorem dX0_wholeArea_23 : decode cX0_wholeArea 23 = .ok (.iadd, 1) := by decide +kernel
theorem dX0_wholeArea_24 : decode cX0_wholeArea 24 = .ok (.iadd, 1) := by decide +kernel
theorem dX0_wholeArea_25 : decode cX0_wholeArea 25 = .ok (.istore_n 1, 1) := by decide +kernel
theorem dX0_wholeArea_26 : decode cX0_wholeArea 26 = .ok (.iinc 2 1, 3) := by decide +kernel
theorem dX0_wholeArea_29 : decode cX0_wholeArea 29 = .ok (.goto (-25), 3) := by decide +kernel
theorem dX0_wholeArea_32 : decode cX0_wholeArea 32 = .ok (.iload_n 1, 1) := by decide +kernel
theorem dX0_wholeArea_33 : decode cX0_wholeArea 33 = .ok (.ireturn, 1) := by decide +kernel
theorem dX0_sumOfForwardAreas_0 : decode cX0_sumOfForwardAreas 0 = .ok (.iconst 0, 1) := by decide +kernel
theorem dX0_sumOfForwardAreas_1 : decode cX0_sumOfForwardAreas 1 = .ok (.istore_n 1, 1) := by decide +kernel
theorem dX0_sumOfForwardAreas_2 : decode cX0_sumOfForwardAreas 2 = .ok (.iconst 0, 1) := by decide +kernel
theorem dX0_sumOfForwardAreas_3 : decode cX0_sumOfForwardAreas 3 = .ok (.istore_n 2, 1) := by decide +kernel
theorem dX0_sumOfForwardAreas_4 : decode cX0_sumOfForwardAreas 4 = .ok (.iload_n 2, 1) := by decide +kernel
theorem dX0_sumOfForwardAreas_5 : decode cX0_sumOfForwardAreas 5 = .ok (.bipush 20, 2) := by decide +kernel
theorem dX0_sumOfForwardAreas_7 : decode cX0_sumOfForwardAreas 7 = .ok (.if_icmp .ge 27, 3) := by decide +kernel
theorem dX0_sumOfForwardAreas_10 : decode cX0_sumOfForwardAreas 10 = .ok (.iload_n 1, 1) := by decide +kernel
theorem dX0_sumOfForwardAreas_11 : decode cX0_sumOfForwardAreas 11 = .ok (.aload_n 0, 1) := by decide +kernel
theorem dX0_sumOfForwardAreas_12 : decode cX0_sumOfForwardAreas 12 = .ok (.iload_n 2, 1) := by decide +kernel
theorem dX0_sumOfForwardAreas_13 : decode cX0_sumOfForwardAreas 13 = .ok (.invokevirtual 18, 3) := by decide +kernel
theorem dX0_sumOfForwardAreas_16 : decode cX0_sumOfForwardAreas 16 = .ok (.aload_n 0, 1) := by decide +kernel
theorem dX0_sumOfForwardAreas_17 : decode cX0_sumOfForwardAreas 17 = .ok (.iload_n 2, 1) := by decide +kernel
theorem dX0_sumOfForwardAreas_18 : decode cX0_sumOfForwardAreas 18 = .ok (.iconst 1, 1) := by decide +kernel
theorem dX0_sumOfForwardAreas_19 : decode cX0_sumOfForwardAreas 19 = .ok (.iadd, 1) := by decide +kernel
theorem dX0_sumOfForwardAreas_20 : decode cX0_sumOfForwardAreas 20 = .ok (.invokevirtual 18, 3) := by decide +kernel
theorem dX0_sumOfForwardAreas_23 : decode cX0_sumOfForwardAreas 23 = .ok (.invokestatic 22, 3) := by decide +kernel
theorem dX0_sumOfForwardAreas_26 : decode cX0_sumOfForwardAreas 26 = .ok (.iadd, 1) := by decide +kernel
theorem dX0_sumOfForwardAreas_27 : decode cX0_sumOfForwardAreas 27 = .ok (.istore_n 1, 1) := by decide +kernel
theorem dX0_sumOfForwardAreas_28 : decode cX0_sumOfForwardAreas 28 = .ok (.iinc 2 1, 3) := by decide +kernel
theorem dX0_sumOfForwardAreas_31 : decode cX0_sumOfForwardAreas 31 = .ok (.goto (-27), 3) := by decide +kernel
theorem dX0_sumOfForwardAreas_34 : decode cX0_sumOfForwardAreas 34 = .ok (.iload_n 1, 1) := by decide +kernel
theorem dX0_sumOfForwardAreas_35 : decode cX0_sumOfForwardAreas 35 = .ok (.ireturn, 1) := by decide +kernel
theorem dX0_sumOfLoopAreas_0 : decode cX0_sumOfLoopAreas 0 = .ok (.iconst 0, 1) := by decide +kernel
theorem dX0_sumOfLoopAreas_1 : decode cX0_sumOfLoopAreas 1 = .ok (.istore_n 1, 1) := by decide +kernel
theorem dX0_sumOfLoopAreas_2 : decode cX0_sumOfLoopAreas 2 = .ok (.iconst 0, 1) := by decide +kernel
theorem dX0_sumOfLoopAreas_3 : decode cX0_sumOfLoopAreas 3 = .ok (.istore_n 2, 1) := by decide +kernel
theorem dX0_sumOfLoopAreas_4 : decode cX0_sumOfLoopAreas 4 = .ok (.iload_n 2, 1) := by decide +kernel
theorem dX0_sumOfLoopAreas_5 : decode cX0_sumOfLoopAreas 5 = .ok (.bipush 20, 2) := by decide +kernel
theorem dX0_sumOfLoopAreas_7 : decode cX0_sumOfLoopAreas 7 = .ok (.if_icmp .ge 29, 3) := by decide +kernel
theorem dX0_sumOfLoopAreas_10 : decode cX0_sumOfLoopAreas 10 = .ok (.iload_n 1, 1) := by decide +kernel
theorem dX0_sumOfLoopAreas_11 : decode cX0_sumOfLoopAreas 11 = .ok (.aload_n 0, 1) := by decide +kernel
theorem dX0_sumOfLoopAreas_12 : decode cX0_sumOfLoopAreas 12 = .ok (.iload_n 2, 1) := by decide +kernel
theorem dX0_sumOfLoopAreas_13 : decode cX0_sumOfLoopAreas 13 = .ok (.invokevirtual 18, 3) := by decide +kernel
theorem dX0_sumOfLoopAreas_16 : decode cX0_sumOfLoopAreas 16 = .ok (.ineg, 1) := by decide +kernel
theorem dX0_sumOfLoopAreas_17 : decode cX0_sumOfLoopAreas 17 = .ok (.aload_n 0, 1) := by decide +kernel
theorem dX0_sumOfLoopAreas_18 : decode cX0_sumOfLoopAreas 18 = .ok (.iload_n 2, 1) := by decide +kernel
theorem dX0_sumOfLoopAreas_19 : decode cX0_sumOfLoopAreas 19 = .ok (.iconst 1, 1) := by decide +kernel
theorem dX0_sumOfLoopAreas_20 : decode cX0_sumOfLoopAreas 20 = .ok (.iadd, 1) := by decide +kernel
theorem dX0_sumOfLoopAreas_21 : decode cX0_sumOfLoopAreas 21 = .ok (.invokevirtual 18, 3) := by decide +kernel
theorem dX0_sumOfLoopAreas_24 : decode cX0_sumOfLoopAreas 24 = .ok (.ineg, 1) := by decide +kernel
theorem dX0_sumOfLoopAreas_25 : decode cX0_sumOfLoopAreas 25 = .ok (.invokestatic 22, 3) := by decide +kernel
theorem dX0_sumOfLoopAreas_28 : decode cX0_sumOfLoopAreas 28 = .ok (.iadd, 1) := by decide +kernel
theorem dX0_sumOfLoopAreas_29 : decode cX0_sumOfLoopAreas 29 = .ok (.istore_n 1, 1) := by decide +kernel
theorem dX0_sumOfLoopAreas_30 : decode cX0_sumOfLoopAreas 30 = .ok (.iinc 2 1, 3) := by decide +kernel
theorem dX0_sumOfLoopAreas_33 : decode cX0_sumOfLoopAreas 33 = .ok (.goto (-29), 3) := by decide +kernel
theorem dX0_sumOfLoopAreas_36 : decode cX0_sumOfLoopAreas 36 = .ok (.iload_n 1, 1) := by decide +kernel
theorem dX0_sumOfLoopAreas_37 : decode cX0_sumOfLoopAreas 37 = .ok (.ireturn, 1) := by decide +kernel
theorem dX0_partAboveZero_0 : decode cX0_partAboveZero 0 = .ok (.iload_n 0, 1) := by decide +kernel
theorem dX0_partAboveZero_1 : decode cX0_partAboveZero 1 = .ok (.ifCond .lt 11, 3) := by decide +kernel
theorem dX0_partAboveZero_4 : decode cX0_partAboveZero 4 = .ok (.iload_n 1, 1) := by decide +kernel
theorem dX0_partAboveZero_5 : decode cX0_partAboveZero 5 = .ok (.ifCond .lt 7, 3) := by decide +kernel
theorem dX0_partAboveZero_8 : decode cX0_partAboveZero 8 = .ok (.iload_n 0, 1) := by decide +kernel
theorem dX0_partAboveZero_9 : decode cX0_partAboveZero 9 = .ok (.iload_n 1, 1) := by decide +kernel
theorem dX0_partAboveZero_10 : decode cX0_partAboveZero 10 = .ok (.iadd, 1) := by decide +kernel
theorem dX0_partAboveZero_11 : decode cX0_partAboveZero 11 = .ok (.ireturn, 1) := by decide +kernel
theorem dX0_partAboveZero_12 : decode cX0_partAboveZero 12 = .ok (.iload_n 0, 1) := by decide +kernel
theorem dX0_partAboveZero_13 : decode cX0_partAboveZero 13 = .ok (.ifCond .gt 9, 3) := by decide +kernel
theorem dX0_partAboveZero_16 : decode cX0_partAboveZero 16 = .ok (.iload_n 1, 1) := by decide +kernel
theorem dX0_partAboveZero_17 : decode cX0_partAboveZero 17 = .ok (.ifCond .gt 5, 3) := by decide +kernel
theorem dX0_partAboveZero_20 : decode cX0_partAboveZero 20 = .ok (.iconst 0, 1) := by decide +kernel
theorem dX0_partAboveZero_21 : decode cX0_partAboveZero 21 = .ok (.ireturn, 1) := by decide +kernel
theorem dX0_partAboveZero_22 : decode cX0_partAboveZero 22 = .ok (.iload_n 0, 1) := by decide +kernel
theorem dX0_partAboveZero_23 : decode cX0_partAboveZero 23 = .ok (.iload_n 1, 1) := by decide +kernel
theorem dX0_partAboveZero_24 : decode cX0_partAboveZero 24 = .ok (.invokestatic 26, 3) := by decide +kernel
theorem dX0_partAboveZero_27 : decode cX0_partAboveZero 27 = .ok (.istore_n 2, 1) := by decide +kernel
theorem dX0_partAboveZero_28 : decode cX0_partAboveZero 28 = .ok (.iload_n 0, 1) := by decide +kernel
theorem dX0_partAboveZero_29 : decode cX0_partAboveZero 29 = .ok (.iload_n 1, 1) := by decide +kernel
theorem dX0_partAboveZero_30 : decode cX0_partAboveZero 30 = .ok (.invokestatic 31, 3) := by decide +kernel
theorem dX0_partAboveZero_33 : decode cX0_partAboveZero 33 = .ok (.ineg, 1) := by decide +kernel
theorem dX0_partAboveZero_34 : decode cX0_partAboveZero 34 = .ok (.istore_n 3, 1) := by decide +kernel
theorem dX0_partAboveZero_35 : decode cX0_partAboveZero 35 = .ok (.iload_n 2, 1) := by decide +kernel
theorem dX0_partAboveZero_36 : decode cX0_partAboveZero 36 = .ok (.iload_n 2, 1) := by decide +kernel
theorem dX0_partAboveZero_37 : decode cX0_partAboveZero 37 = .ok (.imul, 1) := by decide +kernel
theorem dX0_partAboveZero_38 : decode cX0_partAboveZero 38 = .ok (.iload_n 2, 1) := by decide +kernel
theorem dX0_partAboveZero_39 : decode cX0_partAboveZero 39 = .ok (.iload_n 3, 1) := by decide +kernel
theorem dX0_partAboveZero_40 : decode cX0_partAboveZero 40 = .ok (.iadd, 1) := by decide +kernel
theorem dX0_partAboveZero_41 : decode cX0_partAboveZero 41 = .ok (.invokestatic 34, 3) := by decide +kernel
theorem dX0_partAboveZero_44 : decode cX0_partAboveZero 44 = .ok (.ireturn, 1) := by decide +kernel
theorem dX0_stationsBelowZero_0 : decode cX0_stationsBelowZero 0 = .ok (.iconst 0, 1) := by decide +kernel
theorem dX0_stationsBelowZero_1 : decode cX0_stationsBelowZero 1 = .ok (.istore_n 1, 1) := by decide +kernel
theorem dX0_stationsBelowZero_2 : decode cX0_stationsBelowZero 2 = .ok (.iconst 0, 1) := by decide +kernel
theorem dX0_stationsBelowZero_3 : decode cX0_stationsBelowZero 3 = .ok (.istore_n 2, 1) := by decide +kernel
theorem dX0_stationsBelowZero_4 : decode cX0_stationsBelowZero 4 = .ok (.iload_n 2, 1) := by decide +kernel
theorem dX0_stationsBelowZero_5 : decode cX0_stationsBelowZero 5 = .ok (.bipush 21, 2) := by decide +kernel
theorem dX0_stationsBelowZero_7 : decode cX0_stationsBelowZero 7 = .ok (.if_icmp .ge 23, 3) := by decide +kernel
theorem dX0_stationsBelowZero_10 : decode cX0_stationsBelowZero 10 = .ok (.aload_n 0, 1) := by decide +kernel
theorem dX0_stationsBelowZero_11 : decode cX0_stationsBelowZero 11 = .ok (.iload_n 2, 1) := by decide +kernel
theorem dX0_stationsBelowZero_12 : decode cX0_stationsBelowZero 12 = .ok (.invokevirtual 18, 3) := by decide +kernel
theorem dX0_stationsBelowZero_15 : decode cX0_stationsBelowZero 15 = .ok (.ifCond .ge 9, 3) := by decide +kernel
theorem dX0_stationsBelowZero_18 : decode cX0_stationsBelowZero 18 = .ok (.iload_n 1, 1) := by decide +kernel
theorem dX0_stationsBelowZero_19 : decode cX0_stationsBelowZero 19 = .ok (.iconst 1, 1) := by decide +kernel
theorem dX0_stationsBelowZero_20 : decode cX0_stationsBelowZero 20 = .ok (.iload_n 2, 1) := by decide +kernel
theorem dX0_stationsBelowZero_21 : decode cX0_stationsBelowZero 21 = .ok (.ishl, 1) := by decide +kernel
theorem dX0_stationsBelowZero_22 : decode cX0_stationsBelowZero 22 = .ok (.ior, 1) := by decide +kernel
theorem dX0_stationsBelowZero_23 : decode cX0_stationsBelowZero 23 = .ok (.istore_n 1, 1) := by decide +kernel
theorem dX0_stationsBelowZero_24 : decode cX0_stationsBelowZero 24 = .ok (.iinc 2 1, 3) := by decide +kernel
theorem dX0_stationsBelowZero_27 : decode cX0_stationsBelowZero 27 = .ok (.goto (-23), 3) := by decide +kernel
theorem dX0_stationsBelowZero_30 : decode cX0_stationsBelowZero 30 = .ok (.iload_n 1, 1) := by decide +kernel
theorem dX0_stationsBelowZero_31 : decode cX0_stationsBelowZero 31 = .ok (.ireturn, 1) := by decide +kernel
theorem dX1_init_0 : decode cX1_init 0 = .ok (.aload_n 0, 1) := by decide +kernel
theorem dX1_init_1 : decode cX1_init 1 = .ok (.invokespecial 3, 3) := by decide +kernel
theorem dX1_init_4 : decode cX1_init 4 = .ok (.aload_n 0, 1) := by decide +kernel
theorem dX1_init_5 : decode cX1_init 5 = .ok (.bipush 21, 2) := by decide +kernel
theorem dX1_init_7 : decode cX1_init 7 = .ok (.newarray .int, 2) := by decide +kernel
theorem dX1_init_9 : decode cX1_init 9 = .ok (.putfield 9, 3) := by decide +kernel
theorem dX1_init_12 : decode cX1_init 12 = .ok (.aload_n 0, 1) := by decide +kernel
theorem dX1_init_13 : decode cX1_init 13 = .ok (.bipush 21, 2) := by decide +kernel
theorem dX1_init_15 : decode cX1_init 15 = .ok (.newarray .int, 2) := by decide +kernel
theorem dX1_init_17 : decode cX1_init 17 = .ok (.putfield 15, 3) := by decide +kernel
theorem dX1_init_20 : decode cX1_init 20 = .ok (.return_, 1) := by decide +kernel
theorem dX1_begin_0 : decode cX1_begin 0 = .ok (.aload_n 0, 1) := by decide +kernel
theorem dX1_begin_1 : decode cX1_begin 1 = .ok (.iconst 1, 1) := by decide +kernel
theorem dX1_begin_2 : decode cX1_begin 2 = .ok (.putfield 18, 3) := by decide +kernel
theorem dX1_begin_5 : decode cX1_begin 5 = .ok (.aload_n 0, 1) := by decide +kernel
theorem dX1_begin_6 : decode cX1_begin 6 = .ok (.iload_n 1, 1) := by decide +kernel
theorem dX1_begin_7 : decode cX1_begin 7 = .ok (.putfield 22, 3) := by decide +kernel
theorem dX1_begin_10 : decode cX1_begin 10 = .ok (.aload_n 0, 1) := by decide +kernel
theorem dX1_begin_11 : decode cX1_begin 11 = .ok (.iload_n 2, 1) := by decide +kernel
theorem dX1_begin_12 : decode cX1_begin 12 = .ok (.putfield 26, 3) := by decide +kernel
theorem dX1_begin_15 : decode cX1_begin 15 = .ok (.iconst 0, 1) := by decide +kernel
theorem dX1_begin_16 : decode cX1_begin 16 = .ok (.istore_n 3, 1) := by decide +kernel
theorem dX1_begin_17 : decode cX1_begin 17 = .ok (.iload_n 3, 1) := by decide +kernel
theorem dX1_begin_18 : decode cX1_begin 18 = .ok (.bipush 21, 2) := by decide +kernel
theorem dX1_begin_20 : decode cX1_begin 20 = .ok (.if_icmp .ge 23, 3) := by decide +kernel
theorem dX1_begin_23 : decode cX1_begin 23 = .ok (.aload_n 0, 1) := by decide +kernel
theorem dX1_begin_24 : decode cX1_begin 24 = .ok (.getfield 9, 3) := by decide +kernel
theorem dX1_begin_27 : decode cX1_begin 27 = .ok (.iload_n 3, 1) := by decide +kernel
theorem dX1_begin_28 : decode cX1_begin 28 = .ok (.iconst (-1), 1) := by decide +kernel
theorem dX1_begin_29 : decode cX1_begin 29 = .ok (.iastore, 1) := by decide +kernel
theorem dX1_begin_30 : decode cX1_begin 30 = .ok (.aload_n 0, 1) := by decide +kernel
theorem dX1_begin_31 : decode cX1_begin 31 = .ok (.getfield 15, 3) := by decide +kernel
theorem dX1_begin_34 : decode cX1_begin 34 = .ok (.iload_n 3, 1) := by decide +kernel
theorem dX1_begin_35 : decode cX1_begin 35 = .ok (.iconst (-1), 1) := by decide +kernel
theorem dX1_begin_36 : decode cX1_begin 36 = .ok (.iastore, 1) := by decide +kernel
theorem dX1_begin_37 : decode cX1_begin 37 = .ok (.iinc 3 1, 3) := by decide +kernel
theorem dX1_begin_40 : decode cX1_begin 40 = .ok (.goto (-23), 3) := by decide +kernel
theorem dX1_begin_43 : decode cX1_begin 43 = .ok (.return_, 1) := by decide +kernel
theorem dX1_pointsOf_0 : decode cX1_pointsOf 0 = .ok (.iload_n 1, 1) := by decide +kernel
theorem dX1_pointsOf_1 : decode cX1_pointsOf 1 = .ok (.ifCond .ne 10, 3) := by decide +kernel
theorem dX1_pointsOf_4 : decode cX1_pointsOf 4 = .ok (.aload_n 0, 1) := by decide +kernel
theorem dX1_pointsOf_5 : decode cX1_pointsOf 5 = .ok (.getfield 9, 3) := by decide +kernel
theorem dX1_pointsOf_8 : decode cX1_pointsOf 8 = .ok (.goto 7, 3) := by decide +kernel
theorem dX1_pointsOf_11 : decode cX1_pointsOf 11 = .ok (.aload_n 0, 1) := by decide +kernel
theorem dX1_pointsOf_12 : decode cX1_pointsOf 12 = .ok (.getfield 15, 3) := by decide +kernel
theorem dX1_pointsOf_15 : decode cX1_pointsOf 15 = .ok (.areturn, 1) := by decide +kernel
theorem dX1_copyFrom_0 : decode cX1_copyFrom 0 = .ok (.aload_n 0, 1) := by decide +kernel
theorem dX1_copyFrom_1 : decode cX1_copyFrom 1 = .ok (.aload_n 1, 1) := by decide +kernel
theorem dX1_copyFrom_2 : decode cX1_copyFrom 2 = .ok (.getfield 18, 3) := by decide +kernel
theorem dX1_copyFrom_5 : decode cX1_copyFrom 5 = .ok (.putfield 18, 3) := by decide +kernel
theorem dX1_copyFrom_8 : decode cX1_copyFrom 8 = .ok (.aload_n 0, 1) := by decide +kernel
theorem dX1_copyFrom_9 : decode cX1_copyFrom 9 = .ok (.aload_n 1, 1) := by decide +kernel
theorem dX1_copyFrom_10 : decode cX1_copyFrom 10 = .ok (.getfield 22, 3) := by decide +kernel
theorem dX1_copyFrom_13 : decode cX1_copyFrom 13 = .ok (.putfield 22, 3) := by decide +kernel
theorem dX1_copyFrom_16 : decode cX1_copyFrom 16 = .ok (.aload_n 0, 1) := by decide +kernel
theorem dX1_copyFrom_17 : decode cX1_copyFrom 17 = .ok (.aload_n 1, 1) := by decide +kernel
theorem dX1_copyFrom_18 : decode cX1_copyFrom 18 = .ok (.getfield 26, 3) := by decide +kernel
theorem dX1_copyFrom_21 : decode cX1_copyFrom 21 = .ok (.putfield 26, 3) := by decide +kernel
theorem dX1_copyFrom_24 : decode cX1_copyFrom 24 = .ok (.aload_n 1, 1) := by decide +kernel
theorem dX1_copyFrom_25 : decode cX1_copyFrom 25 = .ok (.getfield 9, 3) := by decide +kernel
theorem dX1_copyFrom_28 : decode cX1_copyFrom 28 = .ok (.iconst 0, 1) := by decide +kernel
theorem dX1_copyFrom_29 : decode cX1_copyFrom 29 = .ok (.aload_n 0, 1) := by decide +kernel
theorem dX1_copyFrom_30 : decode cX1_copyFrom 30 = .ok (.getfield 9, 3) := by decide +kernel
theorem dX1_copyFrom_33 : decode cX1_copyFrom 33 = .ok (.iconst 0, 1) := by decide +kernel
theorem dX1_copyFrom_34 : decode cX1_copyFrom 34 = .ok (.bipush 21, 2) := by decide +kernel
theorem dX1_copyFrom_36 : decode cX1_copyFrom 36 = .ok (.invokestatic 29, 3) := by decide +kernel
theorem dX1_copyFrom_39 : decode cX1_copyFrom 39 = .ok (.aload_n 1, 1) := by decide +kernel
theorem dX1_copyFrom_40 : decode cX1_copyFrom 40 = .ok (.getfield 15, 3) := by decide +kernel
theorem dX1_copyFrom_43 : decode cX1_copyFrom 43 = .ok (.iconst 0, 1) := by decide +kernel
theorem dX1_copyFrom_44 : decode cX1_copyFrom 44 = .ok (.aload_n 0, 1) := by decide +kernel
theorem dX1_copyFrom_45 : decode cX1_copyFrom 45 = .ok (.getfield 15, 3) := by decide +kernel
theorem dX1_copyFrom_48 : decode cX1_copyFrom 48 = .ok (.iconst 0, 1) := by decide +kernel
theorem dX1_copyFrom_49 : decode cX1_copyFrom 49 = .ok (.bipush 21, 2) := by decide +kernel
theorem dX1_copyFrom_51 : decode cX1_copyFrom 51 = .ok (.invokestatic 29, 3) := by decide +kernel
theorem dX1_copyFrom_54 : decode cX1_copyFrom 54 = .ok (.return_, 1) := by decide +kernel
theorem dX2_init_0 : decode cX2_init 0 = .ok (.aload_n 0, 1) := by decide +kernel
theorem dX2_init_1 : decode cX2_init 1 = .ok (.invokespecial 3, 3) := by decide +kernel
theorem dX2_init_4 : decode cX2_init 4 = .ok (.aload_n 0, 1) := by decide +kernel
theorem dX2_init_5 : decode cX2_init 5 = .ok (.iconst 0, 1) := by decide +kernel
theorem dX2_init_6 : decode cX2_init 6 = .ok (.putfield 9, 3) := by decide +kernel
theorem dX2_init_9 : decode cX2_init 9 = .ok (.aload_n 0, 1) := by decide +kernel
theorem dX2_init_10 : decode cX2_init 10 = .ok (.bipush 8, 2) := by decide +kernel
theorem dX2_init_12 : decode cX2_init 12 = .ok (.putfield 15, 3) := by decide +kernel
theorem dX2_init_15 : decode cX2_init 15 = .ok (.aload_n 0, 1) := by decide +kernel
theorem dX2_init_16 : decode cX2_init 16 = .ok (.bipush 18, 2) := by decide +kernel
theorem dX2_init_18 : decode cX2_init 18 = .ok (.putfield 18, 3) := by decide +kernel
theorem dX2_init_21 : decode cX2_init 21 = .ok (.aload_n 0, 1) := by decide +kernel
theorem dX2_init_22 : decode cX2_init 22 = .ok (.iconst 4, 1) := by decide +kernel
theorem dX2_init_23 : decode cX2_init 23 = .ok (.putfield 21, 3) := by decide +kernel
theorem dX2_init_26 : decode cX2_init 26 = .ok (.return_, 1) := by decide +kernel
theorem dX2_copyShifted_0 : decode cX2_copyShifted 0 = .ok (.aload_n 0, 1) := by decide +kernel
theorem dX2_copyShifted_1 : decode cX2_copyShifted 1 = .ok (.aload_n 1, 1) := by decide +kernel
theorem dX2_copyShifted_2 : decode cX2_copyShifted 2 = .ok (.getfield 9, 3) := by decide +kernel
theorem dX2_copyShifted_5 : decode cX2_copyShifted 5 = .ok (.iload_n 2, 1) := by decide +kernel
theorem dX2_copyShifted_6 : decode cX2_copyShifted 6 = .ok (.iadd, 1) := by decide +kernel
theorem dX2_copyShifted_7 : decode cX2_copyShifted 7 = .ok (.putfield 9, 3) := by decide +kernel
theorem dX2_copyShifted_10 : decode cX2_copyShifted 10 = .ok (.aload_n 0, 1) := by decide +kernel
theorem dX2_copyShifted_11 : decode cX2_copyShifted 11 = .ok (.aload_n 1, 1) := by decide +kernel
theorem dX2_copyShifted_12 : decode cX2_copyShifted 12 = .ok (.getfield 15, 3) := by decide +kernel
theorem dX2_copyShifted_15 : decode cX2_copyShifted 15 = .ok (.iload_n 2, 1) := by decide +kernel
theorem dX2_copyShifted_16 : decode cX2_copyShifted 16 = .ok (.iadd, 1) := by decide +kernel
theorem dX2_copyShifted_17 : decode cX2_copyShifted 17 = .ok (.putfield 15, 3) := by decide +kernel
theorem dX2_copyShifted_20 : decode cX2_copyShifted 20 = .ok (.aload_n 0, 1) := by decide +kernel
theorem dX2_copyShifted_21 : decode cX2_copyShifted 21 = .ok (.aload_n 1, 1) := by decide +kernel
theorem dX2_copyShifted_22 : decode cX2_copyShifted 22 = .ok (.getfield 18, 3) := by decide +kernel
theorem dX2_copyShifted_25 : decode cX2_copyShifted 25 = .ok (.iload_n 2, 1) := by decide +kernel
theorem dX2_copyShifted_26 : decode cX2_copyShifted 26 = .ok (.iadd, 1) := by decide +kernel
theorem dX2_copyShifted_27 : decode cX2_copyShifted 27 = .ok (.putfield 18, 3) := by decide +kernel
theorem dX2_copyShifted_30 : decode cX2_copyShifted 30 = .ok (.aload_n 0, 1) := by decide +kernel
theorem dX2_copyShifted_31 : decode cX2_copyShifted 31 = .ok (.aload_n 1, 1) := by decide +kernel
theorem dX2_copyShifted_32 : decode cX2_copyShifted 32 = .ok (.getfield 21, 3) := by decide +kernel
theorem dX2_copyShifted_35 : decode cX2_copyShifted 35 = .ok (.iload_n 2, 1) := by decide +kernel
theorem dX2_copyShifted_36 : decode cX2_copyShifted 36 = .ok (.isub, 1) := by decide +kernel
theorem dX2_copyShifted_37 : decode cX2_copyShifted 37 = .ok (.putfield 21, 3) := by decide +kernel
theorem dX2_copyShifted_40 : decode cX2_copyShifted 40 = .ok (.return_, 1) := by decide +kernel
theorem dX2_stationOf_0 : decode cX2_stationOf 0 = .ok (.iload_n 1, 1) := by decide +kernel
theorem dX2_stationOf_1 : decode cX2_stationOf 1 = .ok (.tableswitch 42 0 2 #[27, 32, 37], 27) := by decide +kernel
theorem dX2_stationOf_28 : decode cX2_stationOf 28 = .ok (.aload_n 0, 1) := by decide +kernel
theorem dX2_stationOf_29 : decode cX2_stationOf 29 = .ok (.getfield 9, 3) := by decide +kernel
theorem dX2_stationOf_32 : decode cX2_stationOf 32 = .ok (.ireturn, 1) := by decide +kernel
theorem dX2_stationOf_33 : decode cX2_stationOf 33 = .ok (.aload_n 0, 1) := by decide +kernel
theorem dX2_stationOf_34 : decode cX2_stationOf 34 = .ok (.getfield 15, 3) := by decide +kernel
theorem dX2_stationOf_37 : decode cX2_stationOf 37 = .ok (.ireturn, 1) := by decide +kernel
theorem dX2_stationOf_38 : decode cX2_stationOf 38 = .ok (.aload_n 0, 1) := by decide +kernel
theorem dX2_stationOf_39 : decode cX2_stationOf 39 = .ok (.getfield 18, 3) := by decide +kernel
theorem dX2_stationOf_42 : decode cX2_stationOf 42 = .ok (.ireturn, 1) := by decide +kernel
theorem dX2_stationOf_43 : decode cX2_stationOf 43 = .ok (.aload_n 0, 1) := by decide +kernel
theorem dX2_stationOf_44 : decode cX2_stationOf 44 = .ok (.getfield 21, 3) := by decide +kernel
theorem dX2_stationOf_47 : decode cX2_stationOf 47 = .ok (.ireturn, 1) := by decide +kernel
theorem dX2_existAsIdealCard_0 : decode cX2_existAsIdealCard 0 = .ok (.aload_n 0, 1) := by decide +kernel
theorem dX2_existAsIdealCard_1 : decode cX2_existAsIdealCard 1 = .ok (.getfield 9, 3) := by decide +kernel
theorem dX2_existAsIdealCard_4 : decode cX2_existAsIdealCard 4 = .ok (.iconst 0, 1) := by decide +kernel
theorem dX2_existAsIdealCard_5 : decode cX2_existAsIdealCard 5 = .ok (.bipush 8, 2) := by decide +kernel
theorem dX2_existAsIdealCard_7 : decode cX2_existAsIdealCard 7 = .ok (.invokestatic 24, 3) := by decide +kernel
theorem dX2_existAsIdealCard_10 : decode cX2_existAsIdealCard 10 = .ok (.ifCond .eq 46, 3) := by decide +kernel
theorem dX2_existAsIdealCard_13 : decode cX2_existAsIdealCard 13 = .ok (.aload_n 0, 1) := by decide +kernel
theorem dX2_existAsIdealCard_14 : decode cX2_existAsIdealCard 14 = .ok (.getfield 15, 3) := by decide +kernel
theorem dX2_existAsIdealCard_17 : decode cX2_existAsIdealCard 17 = .ok (.iconst 1, 1) := by decide +kernel
theorem dX2_existAsIdealCard_18 : decode cX2_existAsIdealCard 18 = .ok (.bipush 19, 2) := by decide +kernel
theorem dX2_existAsIdealCard_20 : decode cX2_existAsIdealCard 20 = .ok (.invokestatic 24, 3) := by decide +kernel
theorem dX2_existAsIdealCard_23 : decode cX2_existAsIdealCard 23 = .ok (.ifCond .eq 33, 3) := by decide +kernel
theorem dX2_existAsIdealCard_26 : decode cX2_existAsIdealCard 26 = .ok (.aload_n 0, 1) := by decide +kernel
theorem dX2_existAsIdealCard_27 : decode cX2_existAsIdealCard 27 = .ok (.getfield 18, 3) := by decide +kernel
theorem dX2_existAsIdealCard_30 : decode cX2_existAsIdealCard 30 = .ok (.iconst 2, 1) := by decide +kernel
theorem dX2_existAsIdealCard_31 : decode cX2_existAsIdealCard 31 = .ok (.bipush 20, 2) := by decide +kernel
theorem dX2_existAsIdealCard_33 : decode cX2_existAsIdealCard 33 = .ok (.invokestatic 24, 3) := by decide +kernel
theorem dX2_existAsIdealCard_36 : decode cX2_existAsIdealCard 36 = .ok (.ifCond .eq 20, 3) := by decide +kernel
theorem dX2_existAsIdealCard_39 : decode cX2_existAsIdealCard 39 = .ok (.aload_n 0, 1) := by decide +kernel
theorem dX2_existAsIdealCard_40 : decode cX2_existAsIdealCard 40 = .ok (.getfield 21, 3) := by decide +kernel
theorem dX2_existAsIdealCard_43 : decode cX2_existAsIdealCard 43 = .ok (.iconst 0, 1) := by decide +kernel
theorem dX2_existAsIdealCard_44 : decode cX2_existAsIdealCard 44 = .ok (.bipush 19, 2) := by decide +kernel
theorem dX2_existAsIdealCard_46 : decode cX2_existAsIdealCard 46 = .ok (.invokestatic 24, 3) := by decide +kernel
theorem dX2_existAsIdealCard_49 : decode cX2_existAsIdealCard 49 = .ok (.ifCond .eq 7, 3) := by decide +kernel
theorem dX2_existAsIdealCard_52 : decode cX2_existAsIdealCard 52 = .ok (.iconst 1, 1) := by decide +kernel
theorem dX2_existAsIdealCard_53 : decode cX2_existAsIdealCard 53 = .ok (.goto 4, 3) := by decide +kernel
theorem dX2_existAsIdealCard_56 : decode cX2_existAsIdealCard 56 = .ok (.iconst 0, 1) := by decide +kernel
theorem dX2_existAsIdealCard_57 : decode cX2_existAsIdealCard 57 = .ok (.ireturn, 1) := by decide +kernel
theorem dX3_init_0 : decode cX3_init 0 = .ok (.aload_n 0, 1) := by decide +kernel
theorem dX3_init_1 : decode cX3_init 1 = .ok (.invokespecial 3, 3) := by decide +kernel
theorem dX3_init_4 : decode cX3_init 4 = .ok (.aload_n 0, 1) := by decide +kernel
theorem dX3_init_5 : decode cX3_init 5 = .ok (.iconst 2, 1) := by decide +kernel
theorem dX3_init_6 : decode cX3_init 6 = .ok (.putfield 9, 3) := by decide +kernel
theorem dX3_init_9 : decode cX3_init 9 = .ok (.aload_n 0, 1) := by decide +kernel
theorem dX3_init_10 : decode cX3_init 10 = .ok (.sipush 1000, 3) := by decide +kernel
theorem dX3_init_13 : decode cX3_init 13 = .ok (.putfield 15, 3) := by decide +kernel
theorem dX3_init_16 : decode cX3_init 16 = .ok (.aload_n 0, 1) := by decide +kernel
theorem dX3_init_17 : decode cX3_init 17 = .ok (.sipush 900, 3) := by decide +kernel
theorem dX3_init_20 : decode cX3_init 20 = .ok (.putfield 18, 3) := by decide +kernel
theorem dX3_init_23 : decode cX3_init 23 = .ok (.aload_n 0, 1) := by decide +kernel
theorem dX3_init_24 : decode cX3_init 24 = .ok (.bipush 60, 2) := by decide +kernel
theorem dX3_init_26 : decode cX3_init 26 = .ok (.putfield 21, 3) := by decide +kernel
theorem dX3_init_29 : decode cX3_init 29 = .ok (.aload_n 0, 1) := by decide +kernel
theorem dX3_init_30 : decode cX3_init 30 = .ok (.sipush 800, 3) := by decide +kernel
theorem dX3_init_33 : decode cX3_init 33 = .ok (.putfield 24, 3) := by decide +kernel
theorem dX3_init_36 : decode cX3_init 36 = .ok (.aload_n 0, 1) := by decide +kernel
theorem dX3_init_37 : decode cX3_init 37 = .ok (.bipush 50, 2) := by decide +kernel
theorem dX3_init_39 : decode cX3_init 39 = .ok (.putfield 27, 3) := by decide +kernel
theorem dX3_init_42 : decode cX3_init 42 = .ok (.aload_n 0, 1) := by decide +kernel
theorem dX3_init_43 : decode cX3_init 43 = .ok (.bipush 10, 2) := by decide +kernel
theorem dX3_init_45 : decode cX3_init 45 = .ok (.putfield 30, 3) := by decide +kernel
theorem dX3_init_48 : decode cX3_init 48 = .ok (.aload_n 0, 1) := by decide +kernel
theorem dX3_init_49 : decode cX3_init 49 = .ok (.iconst 5, 1) := by decide +kernel
theorem dX3_init_50 : decode cX3_init 50 = .ok (.putfield 33, 3) := by decide +kernel
theorem dX3_init_53 : decode cX3_init 53 = .ok (.aload_n 0, 1) := by decide +kernel
theorem dX3_init_54 : decode cX3_init 54 = .ok (.new 36, 3) := by decide +kernel
theorem dX3_init_57 : decode cX3_init 57 = .ok (.dup, 1) := by decide +kernel
theorem dX3_init_58 : decode cX3_init 58 = .ok (.invokespecial 38, 3) := by decide +kernel
theorem dX3_init_61 : decode cX3_init 61 = .ok (.putfield 39, 3) := by decide +kernel
theorem dX3_init_64 : decode cX3_init 64 = .ok (.aload_n 0, 1) := by decide +kernel
theorem dX3_init_65 : decode cX3_init 65 = .ok (.new 36, 3) := by decide +kernel
theorem dX3_init_68 : decode cX3_init 68 = .ok (.dup, 1) := by decide +kernel
theorem dX3_init_69 : decode cX3_init 69 = .ok (.invokespecial 38, 3) := by decide +kernel
theorem dX3_init_72 : decode cX3_init 72 = .ok (.putfield 43, 3) := by decide +kernel
theorem dX3_init_75 : decode cX3_init 75 = .ok (.aload_n 0, 1) := by decide +kernel
theorem dX3_init_76 : decode cX3_init 76 = .ok (.new 46, 3) := by decide +kernel
theorem dX3_init_79 : decode cX3_init 79 = .ok (.dup, 1) := by decide +kernel
theorem dX3_init_80 : decode cX3_init 80 = .ok (.invokespecial 48, 3) := by decide +kernel
theorem dX3_init_83 : decode cX3_init 83 = .ok (.putfield 49, 3) := by decide +kernel
theorem dX3_init_86 : decode cX3_init 86 = .ok (.aload_n 0, 1) := by decide +kernel
theorem dX3_init_87 : decode cX3_init 87 = .ok (.bipush 10, 2) := by decide +kernel
theorem dX3_init_89 : decode cX3_init 89 = .ok (.anewarray 53, 3) := by decide +kernel
theorem dX3_init_92 : decode cX3_init 92 = .ok (.putfield 55, 3) := by decide +kernel
theorem dX3_init_95 : decode cX3_init 95 = .ok (.iconst 0, 1) := by decide +kernel
theorem dX3_init_96 : decode cX3_init 96 = .ok (.istore_n 2, 1) := by decide +kernel
theorem dX3_init_97 : decode cX3_init 97 = .ok (.iload_n 2, 1) := by decide +kernel
theorem dX3_init_98 : decode cX3_init 98 = .ok (.bipush 10, 2) := by decide +kernel
theorem dX3_init_100 : decode cX3_init 100 = .ok (.if_icmp .ge 16, 3) := by decide +kernel
theorem dX3_init_103 : decode cX3_init 103 = .ok (.aload_n 0, 1) := by decide +kernel
theorem dX3_init_104 : decode cX3_init 104 = .ok (.getfield 55, 3) := by decide +kernel
theorem dX3_init_107 : decode cX3_init 107 = .ok (.iload_n 2, 1) := by decide +kernel
theorem dX3_init_108 : decode cX3_init 108 = .ok (.aload_n 1, 1) := by decide +kernel
theorem dX3_init_109 : decode cX3_init 109 = .ok (.aastore, 1) := by decide +kernel
theorem dX3_init_110 : decode cX3_init 110 = .ok (.iinc 2 1, 3) := by decide +kernel
theorem dX3_init_113 : decode cX3_init 113 = .ok (.goto (-16), 3) := by decide +kernel
theorem dX3_init_116 : decode cX3_init 116 = .ok (.aload_n 0, 1) := by decide +kernel
theorem dX3_init_117 : decode cX3_init 117 = .ok (.iconst 0, 1) := by decide +kernel
theorem dX3_init_118 : decode cX3_init 118 = .ok (.putfield 59, 3) := by decide +kernel
theorem dX3_init_121 : decode cX3_init 121 = .ok (.return_, 1) := by decide +kernel
theorem dX3_pistonAreaOf_0 : decode cX3_pistonAreaOf 0 = .ok (.iload_n 1, 1) := by decide +kernel
theorem dX3_pistonAreaOf_1 : decode cX3_pistonAreaOf 1 = .ok (.ifCond .ne 10, 3) := by decide +kernel
theorem dX3_pistonAreaOf_4 : decode cX3_pistonAreaOf 4 = .ok (.aload_n 0, 1) := by decide +kernel
theorem dX3_pistonAreaOf_5 : decode cX3_pistonAreaOf 5 = .ok (.getfield 15, 3) := by decide +kernel
theorem dX3_pistonAreaOf_8 : decode cX3_pistonAreaOf 8 = .ok (.goto 7, 3) := by decide +kernel
theorem dX3_pistonAreaOf_11 : decode cX3_pistonAreaOf 11 = .ok (.aload_n 0, 1) := by decide +kernel
theorem dX3_pistonAreaOf_12 : decode cX3_pistonAreaOf 12 = .ok (.getfield 18, 3) := by decide +kernel
theorem dX3_pistonAreaOf_15 : decode cX3_pistonAreaOf 15 = .ok (.ireturn, 1) := by decide +kernel
theorem dX3_valvesOf_0 : decode cX3_valvesOf 0 = .ok (.iload_n 1, 1) := by decide +kernel
theorem dX3_valvesOf_1 : decode cX3_valvesOf 1 = .ok (.ifCond .ne 10, 3) := by decide +kernel
theorem dX3_valvesOf_4 : decode cX3_valvesOf 4 = .ok (.aload_n 0, 1) := by decide +kernel
theorem dX3_valvesOf_5 : decode cX3_valvesOf 5 = .ok (.getfield 39, 3) := by decide +kernel
theorem dX3_valvesOf_8 : decode cX3_valvesOf 8 = .ok (.goto 7, 3) := by decide +kernel
theorem dX3_valvesOf_11 : decode cX3_valvesOf 11 = .ok (.aload_n 0, 1) := by decide +kernel
theorem dX3_valvesOf_12 : decode cX3_valvesOf 12 = .ok (.getfield 43, 3) := by decide +kernel
theorem dX3_valvesOf_15 : decode cX3_valvesOf 15 = .ok (.areturn, 1) := by decide +kernel
theorem dX3_volumeAt_0 : decode cX3_volumeAt 0 = .ok (.aload_n 0, 1) := by decide +kernel
theorem dX3_volumeAt_1 : decode cX3_volumeAt 1 = .ok (.getfield 9, 3) := by decide +kernel
theorem dX3_volumeAt_4 : decode cX3_volumeAt 4 = .ok (.iload_n 1, 1) := by decide +kernel
theorem dX3_volumeAt_5 : decode cX3_volumeAt 5 = .ok (.iadd, 1) := by decide +kernel
theorem dX3_volumeAt_6 : decode cX3_volumeAt 6 = .ok (.ireturn, 1) := by decide +kernel
theorem dX3_dropCard_0 : decode cX3_dropCard 0 = .ok (.iload_n 1, 1) := by decide +kernel
theorem dX3_dropCard_1 : decode cX3_dropCard 1 = .ok (.iconst 1, 1) := by decide +kernel
theorem dX3_dropCard_2 : decode cX3_dropCard 2 = .ok (.iadd, 1) := by decide +kernel
theorem dX3_dropCard_3 : decode cX3_dropCard 3 = .ok (.istore_n 2, 1) := by decide +kernel
theorem dX3_dropCard_4 : decode cX3_dropCard 4 = .ok (.iload_n 2, 1) := by decide +kernel
theorem dX3_dropCard_5 : decode cX3_dropCard 5 = .ok (.aload_n 0, 1) := by decide +kernel
theorem dX3_dropCard_6 : decode cX3_dropCard 6 = .ok (.getfield 59, 3) := by decide +kernel
theorem dX3_dropCard_9 : decode cX3_dropCard 9 = .ok (.if_icmp .ge 23, 3) := by decide +kernel
theorem dX3_dropCard_12 : decode cX3_dropCard 12 = .ok (.aload_n 0, 1) := by decide +kernel
theorem dX3_dropCard_13 : decode cX3_dropCard 13 = .ok (.getfield 55, 3) := by decide +kernel
theorem dX3_dropCard_16 : decode cX3_dropCard 16 = .ok (.iload_n 2, 1) := by decide +kernel
theorem dX3_dropCard_17 : decode cX3_dropCard 17 = .ok (.iconst 1, 1) := by decide +kernel
theorem dX3_dropCard_18 : decode cX3_dropCard 18 = .ok (.isub, 1) := by decide +kernel
theorem dX3_dropCard_19 : decode cX3_dropCard 19 = .ok (.aload_n 0, 1) := by decide +kernel
theorem dX3_dropCard_20 : decode cX3_dropCard 20 = .ok (.getfield 55, 3) := by decide +kernel
theorem dX3_dropCard_23 : decode cX3_dropCard 23 = .ok (.iload_n 2, 1) := by decide +kernel
theorem dX3_dropCard_24 : decode cX3_dropCard 24 = .ok (.aaload, 1) := by decide +kernel
theorem dX3_dropCard_25 : decode cX3_dropCard 25 = .ok (.aastore, 1) := by decide +kernel
theorem dX3_dropCard_26 : decode cX3_dropCard 26 = .ok (.iinc 2 1, 3) := by decide +kernel
theorem dX3_dropCard_29 : decode cX3_dropCard 29 = .ok (.goto (-25), 3) := by decide +kernel
theorem dX3_dropCard_32 : decode cX3_dropCard 32 = .ok (.aload_n 0, 1) := by decide +kernel
theorem dX3_dropCard_33 : decode cX3_dropCard 33 = .ok (.dup, 1) := by decide +kernel
theorem dX3_dropCard_34 : decode cX3_dropCard 34 = .ok (.getfield 59, 3) := by decide +kernel
theorem dX3_dropCard_37 : decode cX3_dropCard 37 = .ok (.iconst 1, 1) := by decide +kernel
theorem dX3_dropCard_38 : decode cX3_dropCard 38 = .ok (.isub, 1) := by decide +kernel
theorem dX3_dropCard_39 : decode cX3_dropCard 39 = .ok (.putfield 59, 3) := by decide +kernel
theorem dX3_dropCard_42 : decode cX3_dropCard 42 = .ok (.return_, 1) := by decide +kernel
theorem dX3_copyFrom_0 : decode cX3_copyFrom 0 = .ok (.aload_n 0, 1) := by decide +kernel
theorem dX3_copyFrom_1 : decode cX3_copyFrom 1 = .ok (.aload_n 1, 1) := by decide +kernel
theorem dX3_copyFrom_2 : decode cX3_copyFrom 2 = .ok (.getfield 9, 3) := by decide +kernel
theorem dX3_copyFrom_5 : decode cX3_copyFrom 5 = .ok (.putfield 9, 3) := by decide +kernel
theorem dX3_copyFrom_8 : decode cX3_copyFrom 8 = .ok (.aload_n 0, 1) := by decide +kernel
theorem dX3_copyFrom_9 : decode cX3_copyFrom 9 = .ok (.aload_n 1, 1) := by decide +kernel
theorem dX3_copyFrom_10 : decode cX3_copyFrom 10 = .ok (.getfield 15, 3) := by decide +kernel
theorem dX3_copyFrom_13 : decode cX3_copyFrom 13 = .ok (.putfield 15, 3) := by decide +kernel
theorem dX3_copyFrom_16 : decode cX3_copyFrom 16 = .ok (.aload_n 0, 1) := by decide +kernel
theorem dX3_copyFrom_17 : decode cX3_copyFrom 17 = .ok (.aload_n 1, 1) := by decide +kernel
theorem dX3_copyFrom_18 : decode cX3_copyFrom 18 = .ok (.getfield 18, 3) := by decide +kernel
theorem dX3_copyFrom_21 : decode cX3_copyFrom 21 = .ok (.putfield 18, 3) := by decide +kernel
theorem dX3_copyFrom_24 : decode cX3_copyFrom 24 = .ok (.aload_n 0, 1) := by decide +kernel
theorem dX3_copyFrom_25 : decode cX3_copyFrom 25 = .ok (.aload_n 1, 1) := by decide +kernel
theorem dX3_copyFrom_26 : decode cX3_copyFrom 26 = .ok (.getfield 21, 3) := by decide +kernel
theorem dX3_copyFrom_29 : decode cX3_copyFrom 29 = .ok (.putfield 21, 3) := by decide +kernel
theorem dX3_copyFrom_32 : decode cX3_copyFrom 32 = .ok (.aload_n 0, 1) := by decide +kernel
theorem dX3_copyFrom_33 : decode cX3_copyFrom 33 = .ok (.aload_n 1, 1) := by decide +kernel
theorem dX3_copyFrom_34 : decode cX3_copyFrom 34 = .ok (.getfield 24, 3) := by decide +kernel
theorem dX3_copyFrom_37 : decode cX3_copyFrom 37 = .ok (.putfield 24, 3) := by decide +kernel
theorem dX3_copyFrom_40 : decode cX3_copyFrom 40 = .ok (.aload_n 0, 1) := by decide +kernel
theorem dX3_copyFrom_41 : decode cX3_copyFrom 41 = .ok (.aload_n 1, 1) := by decide +kernel
theorem dX3_copyFrom_42 : decode cX3_copyFrom 42 = .ok (.getfield 27, 3) := by decide +kernel
theorem dX3_copyFrom_45 : decode cX3_copyFrom 45 = .ok (.putfield 27, 3) := by decide +kernel
theorem dX3_copyFrom_48 : decode cX3_copyFrom 48 = .ok (.aload_n 0, 1) := by decide +kernel
theorem dX3_copyFrom_49 : decode cX3_copyFrom 49 = .ok (.aload_n 1, 1) := by decide +kernel
theorem dX3_copyFrom_50 : decode cX3_copyFrom 50 = .ok (.getfield 30, 3) := by decide +kernel
theorem dX3_copyFrom_53 : decode cX3_copyFrom 53 = .ok (.putfield 30, 3) := by decide +kernel
theorem dX3_copyFrom_56 : decode cX3_copyFrom 56 = .ok (.aload_n 0, 1) := by decide +kernel
theorem dX3_copyFrom_57 : decode cX3_copyFrom 57 = .ok (.aload_n 1, 1) := by decide +kernel
theorem dX3_copyFrom_58 : decode cX3_copyFrom 58 = .ok (.getfield 33, 3) := by decide +kernel
theorem dX3_copyFrom_61 : decode cX3_copyFrom 61 = .ok (.putfield 33, 3) := by decide +kernel
theorem dX3_copyFrom_64 : decode cX3_copyFrom 64 = .ok (.aload_n 0, 1) := by decide +kernel
theorem dX3_copyFrom_65 : decode cX3_copyFrom 65 = .ok (.getfield 39, 3) := by decide +kernel
theorem dX3_copyFrom_68 : decode cX3_copyFrom 68 = .ok (.aload_n 1, 1) := by decide +kernel
theorem dX3_copyFrom_69 : decode cX3_copyFrom 69 = .ok (.getfield 39, 3) := by decide +kernel
theorem dX3_copyFrom_72 : decode cX3_copyFrom 72 = .ok (.iconst 0, 1) := by decide +kernel
theorem dX3_copyFrom_73 : decode cX3_copyFrom 73 = .ok (.invokevirtual 62, 3) := by decide +kernel
theorem dX3_copyFrom_76 : decode cX3_copyFrom 76 = .ok (.aload_n 0, 1) := by decide +kernel
theorem dX3_copyFrom_77 : decode cX3_copyFrom 77 = .ok (.getfield 43, 3) := by decide +kernel
theorem dX3_copyFrom_80 : decode cX3_copyFrom 80 = .ok (.aload_n 1, 1) := by decide +kernel
theorem dX3_copyFrom_81 : decode cX3_copyFrom 81 = .ok (.getfield 43, 3) := by decide +kernel
theorem dX3_copyFrom_84 : decode cX3_copyFrom 84 = .ok (.iconst 0, 1) := by decide +kernel
theorem dX3_copyFrom_85 : decode cX3_copyFrom 85 = .ok (.invokevirtual 62, 3) := by decide +kernel
theorem dX3_copyFrom_88 : decode cX3_copyFrom 88 = .ok (.aload_n 0, 1) := by decide +kernel
theorem dX3_copyFrom_89 : decode cX3_copyFrom 89 = .ok (.getfield 49, 3) := by decide +kernel
theorem dX3_copyFrom_92 : decode cX3_copyFrom 92 = .ok (.aload_n 1, 1) := by decide +kernel
theorem dX3_copyFrom_93 : decode cX3_copyFrom 93 = .ok (.getfield 49, 3) := by decide +kernel
theorem dX3_copyFrom_96 : decode cX3_copyFrom 96 = .ok (.invokevirtual 66, 3) := by decide +kernel
theorem dX3_copyFrom_99 : decode cX3_copyFrom 99 = .ok (.iconst 0, 1) := by decide +kernel
theorem dX3_copyFrom_100 : decode cX3_copyFrom 100 = .ok (.istore_n 2, 1) := by decide +kernel
theorem dX3_copyFrom_101 : decode cX3_copyFrom 101 = .ok (.iload_n 2, 1) := by decide +kernel
theorem dX3_copyFrom_102 : decode cX3_copyFrom 102 = .ok (.bipush 10, 2) := by decide +kernel
theorem dX3_copyFrom_104 : decode cX3_copyFrom 104 = .ok (.if_icmp .ge 21, 3) := by decide +kernel
theorem dX3_copyFrom_107 : decode cX3_copyFrom 107 = .ok (.aload_n 0, 1) := by decide +kernel
theorem dX3_copyFrom_108 : decode cX3_copyFrom 108 = .ok (.getfield 55, 3) := by decide +kernel
theorem dX3_copyFrom_111 : decode cX3_copyFrom 111 = .ok (.iload_n 2, 1) := by decide +kernel
theorem dX3_copyFrom_112 : decode cX3_copyFrom 112 = .ok (.aload_n 1, 1) := by decide +kernel
theorem dX3_copyFrom_113 : decode cX3_copyFrom 113 = .ok (.getfield 55, 3) := by decide +kernel
theorem dX3_copyFrom_116 : decode cX3_copyFrom 116 = .ok (.iload_n 2, 1) := by decide +kernel
theorem dX3_copyFrom_117 : decode cX3_copyFrom 117 = .ok (.aaload, 1) := by decide +kernel
theorem dX3_copyFrom_118 : decode cX3_copyFrom 118 = .ok (.aastore, 1) := by decide +kernel
theorem dX3_copyFrom_119 : decode cX3_copyFrom 119 = .ok (.iinc 2 1, 3) := by decide +kernel
theorem dX3_copyFrom_122 : decode cX3_copyFrom 122 = .ok (.goto (-21), 3) := by decide +kernel
theorem dX3_copyFrom_125 : decode cX3_copyFrom 125 = .ok (.aload_n 0, 1) := by decide +kernel
theorem dX3_copyFrom_126 : decode cX3_copyFrom 126 = .ok (.aload_n 1, 1) := by decide +kernel
theorem dX3_copyFrom_127 : decode cX3_copyFrom 127 = .ok (.getfield 59, 3) := by decide +kernel
theorem dX3_copyFrom_130 : decode cX3_copyFrom 130 = .ok (.putfield 59, 3) := by decide +kernel
theorem dX3_copyFrom_133 : decode cX3_copyFrom 133 = .ok (.return_, 1) := by decide +kernel
theorem dJ9_floorDiv_7cf53_0 : decode cJ9_floorDiv_7cf53 0 = .ok (.iload_n 0, 1) := by decide +kernel
theorem dJ9_floorDiv_7cf53_1 : decode cJ9_floorDiv_7cf53 1 = .ok (.iload_n 1, 1) := by decide +kernel
theorem dJ9_floorDiv_7cf53_2 : decode cJ9_floorDiv_7cf53 2 = .ok (.idiv, 1) := by decide +kernel
theorem dJ9_floorDiv_7cf53_3 : decode cJ9_floorDiv_7cf53 3 = .ok (.istore_n 2, 1) := by decide +kernel
theorem dJ9_floorDiv_7cf53_4 : decode cJ9_floorDiv_7cf53 4 = .ok (.iload_n 0, 1) := by decide +kernel
theorem dJ9_floorDiv_7cf53_5 : decode cJ9_floorDiv_7cf53 5 = .ok (.iload_n 1, 1) := by decide +kernel
theorem dJ9_floorDiv_7cf53_6 : decode cJ9_floorDiv_7cf53 6 = .ok (.ixor, 1) := by decide +kernel
theorem dJ9_floorDiv_7cf53_7 : decode cJ9_floorDiv_7cf53 7 = .ok (.ifCond .ge 14, 3) := by decide +kernel
theorem dJ9_floorDiv_7cf53_10 : decode cJ9_floorDiv_7cf53 10 = .ok (.iload_n 2, 1) := by decide +kernel
theorem dJ9_floorDiv_7cf53_11 : decode cJ9_floorDiv_7cf53 11 = .ok (.iload_n 1, 1) := by decide +kernel
theorem dJ9_floorDiv_7cf53_12 : decode cJ9_floorDiv_7cf53 12 = .ok (.imul, 1) := by decide +kernel
theorem dJ9_floorDiv_7cf53_13 : decode cJ9_floorDiv_7cf53 13 = .ok (.iload_n 0, 1) := by decide +kernel
theorem dJ9_floorDiv_7cf53_14 : decode cJ9_floorDiv_7cf53 14 = .ok (.if_icmp .eq 7, 3) := by decide +kernel
theorem dJ9_floorDiv_7cf53_17 : decode cJ9_floorDiv_7cf53 17 = .ok (.iload_n 2, 1) := by decide +kernel
theorem dJ9_floorDiv_7cf53_18 : decode cJ9_floorDiv_7cf53 18 = .ok (.iconst 1, 1) := by decide +kernel
theorem dJ9_floorDiv_7cf53_19 : decode cJ9_floorDiv_7cf53 19 = .ok (.isub, 1) := by decide +kernel
theorem dJ9_floorDiv_7cf53_20 : decode cJ9_floorDiv_7cf53 20 = .ok (.ireturn, 1) := by decide +kernel
theorem dJ9_floorDiv_7cf53_21 : decode cJ9_floorDiv_7cf53 21 = .ok (.iload_n 2, 1) := by decide +kernel
theorem dJ9_floorDiv_7cf53_22 : decode cJ9_floorDiv_7cf53 22 = .ok (.ireturn, 1) := by decide +kernel
theorem dJ9_floorDiv_f86c9_0 : decode cJ9_floorDiv_f86c9 0 = .ok (.lload_n 0, 1) := by decide +kernel
theorem dJ9_floorDiv_f86c9_1 : decode cJ9_floorDiv_f86c9 1 = .ok (.lload_n 2, 1) := by decide +kernel
theorem dJ9_floorDiv_f86c9_2 : decode cJ9_floorDiv_f86c9 2 = .ok (.ldiv, 1) := by decide +kernel
theorem dJ9_floorDiv_f86c9_3 : decode cJ9_floorDiv_f86c9 3 = .ok (.lstore 4, 2) := by decide +kernel
theorem dJ9_floorDiv_f86c9_5 : decode cJ9_floorDiv_f86c9 5 = .ok (.lload_n 0, 1) := by decide +kernel
theorem dJ9_floorDiv_f86c9_6 : decode cJ9_floorDiv_f86c9 6 = .ok (.lload_n 2, 1) := by decide +kernel
theorem dJ9_floorDiv_f86c9_7 : decode cJ9_floorDiv_f86c9 7 = .ok (.lxor, 1) := by decide +kernel
theorem dJ9_floorDiv_f86c9_8 : decode cJ9_floorDiv_f86c9 8 = .ok (.lconst 0, 1) := by decide +kernel
theorem dJ9_floorDiv_f86c9_9 : decode cJ9_floorDiv_f86c9 9 = .ok (.lcmp, 1) := by decide +kernel
theorem dJ9_floorDiv_f86c9_10 : decode cJ9_floorDiv_f86c9 10 = .ok (.ifCond .ge 17, 3) := by decide +kernel
theorem dJ9_floorDiv_f86c9_13 : decode cJ9_floorDiv_f86c9 13 = .ok (.lload 4, 2) := by decide +kernel
theorem dJ9_floorDiv_f86c9_15 : decode cJ9_floorDiv_f86c9 15 = .ok (.lload_n 2, 1) := by decide +kernel
theorem dJ9_floorDiv_f86c9_16 : decode cJ9_floorDiv_f86c9 16 = .ok (.lmul, 1) := by decide +kernel
theorem dJ9_floorDiv_f86c9_17 : decode cJ9_floorDiv_f86c9 17 = .ok (.lload_n 0, 1) := by decide +kernel
theorem dJ9_floorDiv_f86c9_18 : decode cJ9_floorDiv_f86c9 18 = .ok (.lcmp, 1) := by decide +kernel
theorem dJ9_floorDiv_f86c9_19 : decode cJ9_floorDiv_f86c9 19 = .ok (.ifCond .eq 8, 3) := by decide +kernel
theorem dJ9_floorDiv_f86c9_22 : decode cJ9_floorDiv_f86c9 22 = .ok (.lload 4, 2) := by decide +kernel
theorem dJ9_floorDiv_f86c9_24 : decode cJ9_floorDiv_f86c9 24 = .ok (.lconst 1, 1) := by decide +kernel
theorem dJ9_floorDiv_f86c9_25 : decode cJ9_floorDiv_f86c9 25 = .ok (.lsub, 1) := by decide +kernel
theorem dJ9_floorDiv_f86c9_26 : decode cJ9_floorDiv_f86c9 26 = .ok (.lreturn, 1) := by decide +kernel
theorem dJ9_floorDiv_f86c9_27 : decode cJ9_floorDiv_f86c9 27 = .ok (.lload 4, 2) := by decide +kernel
theorem dJ9_floorDiv_f86c9_29 : decode cJ9_floorDiv_f86c9 29 = .ok (.lreturn, 1) := by decide +kernel
theorem dJ9_abs_0f7a4_0 : decode cJ9_abs_0f7a4 0 = .ok (.iload_n 0, 1) := by decide +kernel
theorem dJ9_abs_0f7a4_1 : decode cJ9_abs_0f7a4 1 = .ok (.ifCond .ge 8, 3) := by decide +kernel
theorem dJ9_abs_0f7a4_4 : decode cJ9_abs_0f7a4 4 = .ok (.iload_n 0, 1) := by decide +kernel
theorem dJ9_abs_0f7a4_5 : decode cJ9_abs_0f7a4 5 = .ok (.ineg, 1) := by decide +kernel
theorem dJ9_abs_0f7a4_6 : decode cJ9_abs_0f7a4 6 = .ok (.goto 4, 3) := by decide +kernel
theorem dJ9_abs_0f7a4_9 : decode cJ9_abs_0f7a4 9 = .ok (.iload_n 0, 1) := by decide +kernel
theorem dJ9_abs_0f7a4_10 : decode cJ9_abs_0f7a4 10 = .ok (.ireturn, 1) := by decide +kernel
theorem dJ9_abs_067f4_0 : decode cJ9_abs_067f4 0 = .ok (.lload_n 0, 1) := by decide +kernel
theorem dJ9_abs_067f4_1 : decode cJ9_abs_067f4 1 = .ok (.lconst 0, 1) := by decide +kernel
theorem dJ9_abs_067f4_2 : decode cJ9_abs_067f4 2 = .ok (.lcmp, 1) := by decide +kernel
theorem dJ9_abs_067f4_3 : decode cJ9_abs_067f4 3 = .ok (.ifCond .ge 8, 3) := by decide +kernel
theorem dJ9_abs_067f4_6 : decode cJ9_abs_067f4 6 = .ok (.lload_n 0, 1) := by decide +kernel
theorem dJ9_abs_067f4_7 : decode cJ9_abs_067f4 7 = .ok (.lneg, 1) := by decide +kernel
theorem dJ9_abs_067f4_8 : decode cJ9_abs_067f4 8 = .ok (.goto 4, 3) := by decide +kernel
theorem dJ9_abs_067f4_11 : decode cJ9_abs_067f4 11 = .ok (.lload_n 0, 1) := by decide +kernel
theorem dJ9_abs_067f4_12 : decode cJ9_abs_067f4 12 = .ok (.lreturn, 1) := by decide +kernel
theorem dJ9_max_7cf53_0 : decode cJ9_max_7cf53 0 = .ok (.iload_n 0, 1) := by decide +kernel
theorem dJ9_max_7cf53_1 : decode cJ9_max_7cf53 1 = .ok (.iload_n 1, 1) := by decide +kernel
theorem dJ9_max_7cf53_2 : decode cJ9_max_7cf53 2 = .ok (.if_icmp .lt 7, 3) := by decide +kernel
theorem dJ9_max_7cf53_5 : decode cJ9_max_7cf53 5 = .ok (.iload_n 0, 1) := by decide +kernel
theorem dJ9_max_7cf53_6 : decode cJ9_max_7cf53 6 = .ok (.goto 4, 3) := by decide +kernel
theorem dJ9_max_7cf53_9 : decode cJ9_max_7cf53 9 = .ok (.iload_n 1, 1) := by decide +kernel
theorem dJ9_max_7cf53_10 : decode cJ9_max_7cf53 10 = .ok (.ireturn, 1) := by decide +kernel
theorem dJ9_min_7cf53_0 : decode cJ9_min_7cf53 0 = .ok (.iload_n 0, 1) := by decide +kernel
theorem dJ9_min_7cf53_1 : decode cJ9_min_7cf53 1 = .ok (.iload_n 1, 1) := by decide +kernel
theorem dJ9_min_7cf53_2 : decode cJ9_min_7cf53 2 = .ok (.if_icmp .gt 7, 3) := by decide +kernel
theorem dJ9_min_7cf53_5 : decode cJ9_min_7cf53 5 = .ok (.iload_n 0, 1) := by decide +kernel
theorem dJ9_min_7cf53_6 : decode cJ9_min_7cf53 6 = .ok (.goto 4, 3) := by decide +kernel
theorem dJ9_min_7cf53_9 : decode cJ9_min_7cf53 9 = .ok (.iload_n 1, 1) := by decide +kernel
theorem dJ9_min_7cf53_10 : decode cJ9_min_7cf53 10 = .ok (.ireturn, 1) := by decide +kernel
