theorem dX4_init_0 : decode cX4_init 0 = .ok (.aload_n 0, 1) := by decide +kernel
theorem dX4_init_1 : decode cX4_init 1 = .ok (.invokespecial 1, 3) := by decide +kernel
theorem dX4_init_4 : decode cX4_init 4 = .ok (.aload_n 0, 1) := by decide +kernel
theorem dX4_init_5 : decode cX4_init 5 = .ok (.new 7, 3) := by decide +kernel
theorem dX4_init_8 : decode cX4_init 8 = .ok (.dup, 1) := by decide +kernel
theorem dX4_init_9 : decode cX4_init 9 = .ok (.invokespecial 9, 3) := by decide +kernel
theorem dX4_init_12 : decode cX4_init 12 = .ok (.putfield 10, 3) := by decide +kernel
theorem dX4_init_15 : decode cX4_init 15 = .ok (.aload_n 0, 1) := by decide +kernel
theorem dX4_init_16 : decode cX4_init 16 = .ok (.new 16, 3) := by decide +kernel
theorem dX4_init_19 : decode cX4_init 19 = .ok (.dup, 1) := by decide +kernel
theorem dX4_init_20 : decode cX4_init 20 = .ok (.invokespecial 18, 3) := by decide +kernel
theorem dX4_init_23 : decode cX4_init 23 = .ok (.putfield 19, 3) := by decide +kernel
theorem dX4_init_26 : decode cX4_init 26 = .ok (.aload_n 0, 1) := by decide +kernel
theorem dX4_init_27 : decode cX4_init 27 = .ok (.new 16, 3) := by decide +kernel
theorem dX4_init_30 : decode cX4_init 30 = .ok (.dup, 1) := by decide +kernel
theorem dX4_init_31 : decode cX4_init 31 = .ok (.invokespecial 18, 3) := by decide +kernel
theorem dX4_init_34 : decode cX4_init 34 = .ok (.putfield 23, 3) := by decide +kernel
theorem dX4_init_37 : decode cX4_init 37 = .ok (.aload_n 0, 1) := by decide +kernel
theorem dX4_init_38 : decode cX4_init 38 = .ok (.bipush 10, 2) := by decide +kernel
theorem dX4_init_40 : decode cX4_init 40 = .ok (.newarray .int, 2) := by decide +kernel
theorem dX4_init_42 : decode cX4_init 42 = .ok (.putfield 26, 3) := by decide +kernel
theorem dX4_init_45 : decode cX4_init 45 = .ok (.aload_n 0, 1) := by decide +kernel
theorem dX4_init_46 : decode cX4_init 46 = .ok (.new 30, 3) := by decide +kernel
theorem dX4_init_49 : decode cX4_init 49 = .ok (.dup, 1) := by decide +kernel
theorem dX4_init_50 : decode cX4_init 50 = .ok (.aload_n 0, 1) := by decide +kernel
theorem dX4_init_51 : decode cX4_init 51 = .ok (.getfield 10, 3) := by decide +kernel
theorem dX4_init_54 : decode cX4_init 54 = .ok (.invokespecial 32, 3) := by decide +kernel
theorem dX4_init_57 : decode cX4_init 57 = .ok (.putfield 35, 3) := by decide +kernel
theorem dX4_init_60 : decode cX4_init 60 = .ok (.aload_n 0, 1) := by decide +kernel
theorem dX4_init_61 : decode cX4_init 61 = .ok (.iconst 4, 1) := by decide +kernel
theorem dX4_init_62 : decode cX4_init 62 = .ok (.anewarray 30, 3) := by decide +kernel
theorem dX4_init_65 : decode cX4_init 65 = .ok (.putfield 39, 3) := by decide +kernel
theorem dX4_init_68 : decode cX4_init 68 = .ok (.iconst 0, 1) := by decide +kernel
theorem dX4_init_69 : decode cX4_init 69 = .ok (.istore_n 1, 1) := by decide +kernel
theorem dX4_init_70 : decode cX4_init 70 = .ok (.iload_n 1, 1) := by decide +kernel
theorem dX4_init_71 : decode cX4_init 71 = .ok (.iconst 4, 1) := by decide +kernel
theorem dX4_init_72 : decode cX4_init 72 = .ok (.if_icmp .ge 26, 3) := by decide +kernel
theorem dX4_init_75 : decode cX4_init 75 = .ok (.aload_n 0, 1) := by decide +kernel
theorem dX4_init_76 : decode cX4_init 76 = .ok (.getfield 39, 3) := by decide +kernel
theorem dX4_init_79 : decode cX4_init 79 = .ok (.iload_n 1, 1) := by decide +kernel
theorem dX4_init_80 : decode cX4_init 80 = .ok (.new 30, 3) := by decide +kernel
theorem dX4_init_83 : decode cX4_init 83 = .ok (.dup, 1) := by decide +kernel
theorem dX4_init_84 : decode cX4_init 84 = .ok (.aload_n 0, 1) := by decide +kernel
theorem dX4_init_85 : decode cX4_init 85 = .ok (.getfield 10, 3) := by decide +kernel
theorem dX4_init_88 : decode cX4_init 88 = .ok (.invokespecial 32, 3) := by decide +kernel
theorem dX4_init_91 : decode cX4_init 91 = .ok (.aastore, 1) := by decide +kernel
theorem dX4_init_92 : decode cX4_init 92 = .ok (.iinc 1 1, 3) := by decide +kernel
theorem dX4_init_95 : decode cX4_init 95 = .ok (.goto (-25), 3) := by decide +kernel
theorem dX4_init_98 : decode cX4_init 98 = .ok (.aload_n 0, 1) := by decide +kernel
theorem dX4_init_99 : decode cX4_init 99 = .ok (.iconst 0, 1) := by decide +kernel
theorem dX4_init_100 : decode cX4_init 100 = .ok (.putfield 43, 3) := by decide +kernel
theorem dX4_init_103 : decode cX4_init 103 = .ok (.return_, 1) := by decide +kernel
theorem dX4_setClearance_0 : decode cX4_setClearance 0 = .ok (.iload_n 1, 1) := by decide +kernel
theorem dX4_setClearance_1 : decode cX4_setClearance 1 = .ok (.iconst 1, 1) := by decide +kernel
theorem dX4_setClearance_2 : decode cX4_setClearance 2 = .ok (.bipush 20, 2) := by decide +kernel
theorem dX4_setClearance_4 : decode cX4_setClearance 4 = .ok (.invokestatic 47, 3) := by decide +kernel
theorem dX4_setClearance_7 : decode cX4_setClearance 7 = .ok (.ifCond .ne 6, 3) := by decide +kernel
theorem dX4_setClearance_10 : decode cX4_setClearance 10 = .ok (.ldc 51, 2) := by decide +kernel
theorem dX4_setClearance_12 : decode cX4_setClearance 12 = .ok (.ireturn, 1) := by decide +kernel
theorem dX4_setClearance_13 : decode cX4_setClearance 13 = .ok (.aload_n 0, 1) := by decide +kernel
theorem dX4_setClearance_14 : decode cX4_setClearance 14 = .ok (.invokevirtual 52, 3) := by decide +kernel
theorem dX4_setClearance_17 : decode cX4_setClearance 17 = .ok (.aload_n 0, 1) := by decide +kernel
theorem dX4_setClearance_18 : decode cX4_setClearance 18 = .ok (.getfield 35, 3) := by decide +kernel
theorem dX4_setClearance_21 : decode cX4_setClearance 21 = .ok (.getfield 55, 3) := by decide +kernel
theorem dX4_setClearance_24 : decode cX4_setClearance 24 = .ok (.istore_n 2, 1) := by decide +kernel
theorem dX4_setClearance_25 : decode cX4_setClearance 25 = .ok (.aload_n 0, 1) := by decide +kernel
theorem dX4_setClearance_26 : decode cX4_setClearance 26 = .ok (.getfield 35, 3) := by decide +kernel
theorem dX4_setClearance_29 : decode cX4_setClearance 29 = .ok (.iload_n 1, 1) := by decide +kernel
theorem dX4_setClearance_30 : decode cX4_setClearance 30 = .ok (.putfield 55, 3) := by decide +kernel
theorem dX4_setClearance_33 : decode cX4_setClearance 33 = .ok (.iload_n 2, 1) := by decide +kernel
theorem dX4_setClearance_34 : decode cX4_setClearance 34 = .ok (.ireturn, 1) := by decide +kernel
theorem dX4_setPistonArea_0 : decode cX4_setPistonArea 0 = .ok (.iload_n 1, 1) := by decide +kernel
theorem dX4_setPistonArea_1 : decode cX4_setPistonArea 1 = .ok (.invokestatic 58, 3) := by decide +kernel
theorem dX4_setPistonArea_4 : decode cX4_setPistonArea 4 = .ok (.ifCond .eq 14, 3) := by decide +kernel
theorem dX4_setPistonArea_7 : decode cX4_setPistonArea 7 = .ok (.iload_n 2, 1) := by decide +kernel
theorem dX4_setPistonArea_8 : decode cX4_setPistonArea 8 = .ok (.iconst 1, 1) := by decide +kernel
theorem dX4_setPistonArea_9 : decode cX4_setPistonArea 9 = .ok (.sipush 5000, 3) := by decide +kernel
theorem dX4_setPistonArea_12 : decode cX4_setPistonArea 12 = .ok (.invokestatic 47, 3) := by decide +kernel
theorem dX4_setPistonArea_15 : decode cX4_setPistonArea 15 = .ok (.ifCond .ne 6, 3) := by decide +kernel
theorem dX4_setPistonArea_18 : decode cX4_setPistonArea 18 = .ok (.ldc 51, 2) := by decide +kernel
theorem dX4_setPistonArea_20 : decode cX4_setPistonArea 20 = .ok (.ireturn, 1) := by decide +kernel
theorem dX4_setPistonArea_21 : decode cX4_setPistonArea 21 = .ok (.aload_n 0, 1) := by decide +kernel
theorem dX4_setPistonArea_22 : decode cX4_setPistonArea 22 = .ok (.invokevirtual 52, 3) := by decide +kernel
theorem dX4_setPistonArea_25 : decode cX4_setPistonArea 25 = .ok (.aload_n 0, 1) := by decide +kernel
theorem dX4_setPistonArea_26 : decode cX4_setPistonArea 26 = .ok (.getfield 35, 3) := by decide +kernel
theorem dX4_setPistonArea_29 : decode cX4_setPistonArea 29 = .ok (.iload_n 1, 1) := by decide +kernel
theorem dX4_setPistonArea_30 : decode cX4_setPistonArea 30 = .ok (.invokevirtual 62, 3) := by decide +kernel
theorem dX4_setPistonArea_33 : decode cX4_setPistonArea 33 = .ok (.istore_n 3, 1) := by decide +kernel
theorem dX4_setPistonArea_34 : decode cX4_setPistonArea 34 = .ok (.iload_n 1, 1) := by decide +kernel
theorem dX4_setPistonArea_35 : decode cX4_setPistonArea 35 = .ok (.ifCond .ne 14, 3) := by decide +kernel
theorem dX4_setPistonArea_38 : decode cX4_setPistonArea 38 = .ok (.aload_n 0, 1) := by decide +kernel
theorem dX4_setPistonArea_39 : decode cX4_setPistonArea 39 = .ok (.getfield 35, 3) := by decide +kernel
theorem dX4_setPistonArea_42 : decode cX4_setPistonArea 42 = .ok (.iload_n 2, 1) := by decide +kernel
theorem dX4_setPistonArea_43 : decode cX4_setPistonArea 43 = .ok (.putfield 66, 3) := by decide +kernel
theorem dX4_setPistonArea_46 : decode cX4_setPistonArea 46 = .ok (.goto 11, 3) := by decide +kernel
theorem dX4_setPistonArea_49 : decode cX4_setPistonArea 49 = .ok (.aload_n 0, 1) := by decide +kernel
theorem dX4_setPistonArea_50 : decode cX4_setPistonArea 50 = .ok (.getfield 35, 3) := by decide +kernel
theorem dX4_setPistonArea_53 : decode cX4_setPistonArea 53 = .ok (.iload_n 2, 1) := by decide +kernel
theorem dX4_setPistonArea_54 : decode cX4_setPistonArea 54 = .ok (.putfield 69, 3) := by decide +kernel
theorem dX4_setPistonArea_57 : decode cX4_setPistonArea 57 = .ok (.iload_n 3, 1) := by decide +kernel
theorem dX4_setPistonArea_58 : decode cX4_setPistonArea 58 = .ok (.ireturn, 1) := by decide +kernel
theorem dX4_setStroke_0 : decode cX4_setStroke 0 = .ok (.iload_n 1, 1) := by decide +kernel
theorem dX4_setStroke_1 : decode cX4_setStroke 1 = .ok (.iconst 1, 1) := by decide +kernel
theorem dX4_setStroke_2 : decode cX4_setStroke 2 = .ok (.sipush 300, 3) := by decide +kernel
theorem dX4_setStroke_5 : decode cX4_setStroke 5 = .ok (.invokestatic 47, 3) := by decide +kernel
theorem dX4_setStroke_8 : decode cX4_setStroke 8 = .ok (.ifCond .ne 6, 3) := by decide +kernel
theorem dX4_setStroke_11 : decode cX4_setStroke 11 = .ok (.ldc 51, 2) := by decide +kernel
theorem dX4_setStroke_13 : decode cX4_setStroke 13 = .ok (.ireturn, 1) := by decide +kernel
theorem dX4_setStroke_14 : decode cX4_setStroke 14 = .ok (.aload_n 0, 1) := by decide +kernel
theorem dX4_setStroke_15 : decode cX4_setStroke 15 = .ok (.invokevirtual 52, 3) := by decide +kernel
theorem dX4_setStroke_18 : decode cX4_setStroke 18 = .ok (.aload_n 0, 1) := by decide +kernel
theorem dX4_setStroke_19 : decode cX4_setStroke 19 = .ok (.getfield 35, 3) := by decide +kernel
theorem dX4_setStroke_22 : decode cX4_setStroke 22 = .ok (.getfield 72, 3) := by decide +kernel
theorem dX4_setStroke_25 : decode cX4_setStroke 25 = .ok (.istore_n 2, 1) := by decide +kernel
theorem dX4_setStroke_26 : decode cX4_setStroke 26 = .ok (.aload_n 0, 1) := by decide +kernel
theorem dX4_setStroke_27 : decode cX4_setStroke 27 = .ok (.getfield 35, 3) := by decide +kernel
theorem dX4_setStroke_30 : decode cX4_setStroke 30 = .ok (.iload_n 1, 1) := by decide +kernel
theorem dX4_setStroke_31 : decode cX4_setStroke 31 = .ok (.putfield 72, 3) := by decide +kernel
theorem dX4_setStroke_34 : decode cX4_setStroke 34 = .ok (.iload_n 2, 1) := by decide +kernel
theorem dX4_setStroke_35 : decode cX4_setStroke 35 = .ok (.ireturn, 1) := by decide +kernel
theorem dX4_setBoilerPressure_0 : decode cX4_setBoilerPressure 0 = .ok (.iload_n 1, 1) := by decide +kernel
theorem dX4_setBoilerPressure_1 : decode cX4_setBoilerPressure 1 = .ok (.bipush 100, 2) := by decide +kernel
theorem dX4_setBoilerPressure_3 : decode cX4_setBoilerPressure 3 = .ok (.sipush 2000, 3) := by decide +kernel
theorem dX4_setBoilerPressure_6 : decode cX4_setBoilerPressure 6 = .ok (.invokestatic 47, 3) := by decide +kernel
theorem dX4_setBoilerPressure_9 : decode cX4_setBoilerPressure 9 = .ok (.ifCond .ne 6, 3) := by decide +kernel
theorem dX4_setBoilerPressure_12 : decode cX4_setBoilerPressure 12 = .ok (.ldc 51, 2) := by decide +kernel
theorem dX4_setBoilerPressure_14 : decode cX4_setBoilerPressure 14 = .ok (.ireturn, 1) := by decide +kernel
theorem dX4_setBoilerPressure_15 : decode cX4_setBoilerPressure 15 = .ok (.aload_n 0, 1) := by decide +kernel
theorem dX4_setBoilerPressure_16 : decode cX4_setBoilerPressure 16 = .ok (.invokevirtual 52, 3) := by decide +kernel
theorem dX4_setBoilerPressure_19 : decode cX4_setBoilerPressure 19 = .ok (.aload_n 0, 1) := by decide +kernel
theorem dX4_setBoilerPressure_20 : decode cX4_setBoilerPressure 20 = .ok (.getfield 35, 3) := by decide +kernel
theorem dX4_setBoilerPressure_23 : decode cX4_setBoilerPressure 23 = .ok (.getfield 75, 3) := by decide +kernel
theorem dX4_setBoilerPressure_26 : decode cX4_setBoilerPressure 26 = .ok (.istore_n 2, 1) := by decide +kernel
theorem dX4_setBoilerPressure_27 : decode cX4_setBoilerPressure 27 = .ok (.aload_n 0, 1) := by decide +kernel
theorem dX4_setBoilerPressure_28 : decode cX4_setBoilerPressure 28 = .ok (.getfield 35, 3) := by decide +kernel
theorem dX4_setBoilerPressure_31 : decode cX4_setBoilerPressure 31 = .ok (.iload_n 1, 1) := by decide +kernel
theorem dX4_setBoilerPressure_32 : decode cX4_setBoilerPressure 32 = .ok (.putfield 75, 3) := by decide +kernel
theorem dX4_setBoilerPressure_35 : decode cX4_setBoilerPressure 35 = .ok (.iload_n 2, 1) := by decide +kernel
theorem dX4_setBoilerPressure_36 : decode cX4_setBoilerPressure 36 = .ok (.ireturn, 1) := by decide +kernel
theorem dX4_setBackPressure_0 : decode cX4_setBackPressure 0 = .ok (.iload_n 1, 1) := by decide +kernel
theorem dX4_setBackPressure_1 : decode cX4_setBackPressure 1 = .ok (.bipush 10, 2) := by decide +kernel
theorem dX4_setBackPressure_3 : decode cX4_setBackPressure 3 = .ok (.bipush 99, 2) := by decide +kernel
theorem dX4_setBackPressure_5 : decode cX4_setBackPressure 5 = .ok (.invokestatic 47, 3) := by decide +kernel
theorem dX4_setBackPressure_8 : decode cX4_setBackPressure 8 = .ok (.ifCond .ne 6, 3) := by decide +kernel
theorem dX4_setBackPressure_11 : decode cX4_setBackPressure 11 = .ok (.ldc 51, 2) := by decide +kernel
theorem dX4_setBackPressure_13 : decode cX4_setBackPressure 13 = .ok (.ireturn, 1) := by decide +kernel
theorem dX4_setBackPressure_14 : decode cX4_setBackPressure 14 = .ok (.aload_n 0, 1) := by decide +kernel
theorem dX4_setBackPressure_15 : decode cX4_setBackPressure 15 = .ok (.invokevirtual 52, 3) := by decide +kernel
theorem dX4_setBackPressure_18 : decode cX4_setBackPressure 18 = .ok (.aload_n 0, 1) := by decide +kernel
theorem dX4_setBackPressure_19 : decode cX4_setBackPressure 19 = .ok (.getfield 35, 3) := by decide +kernel
theorem dX4_setBackPressure_22 : decode cX4_setBackPressure 22 = .ok (.getfield 78, 3) := by decide +kernel
theorem dX4_setBackPressure_25 : decode cX4_setBackPressure 25 = .ok (.istore_n 2, 1) := by decide +kernel
theorem dX4_setBackPressure_26 : decode cX4_setBackPressure 26 = .ok (.aload_n 0, 1) := by decide +kernel
theorem dX4_setBackPressure_27 : decode cX4_setBackPressure 27 = .ok (.getfield 35, 3) := by decide +kernel
theorem dX4_setBackPressure_30 : decode cX4_setBackPressure 30 = .ok (.iload_n 1, 1) := by decide +kernel
theorem dX4_setBackPressure_31 : decode cX4_setBackPressure 31 = .ok (.putfield 78, 3) := by decide +kernel
theorem dX4_setBackPressure_34 : decode cX4_setBackPressure 34 = .ok (.iload_n 2, 1) := by decide +kernel
theorem dX4_setBackPressure_35 : decode cX4_setBackPressure 35 = .ok (.ireturn, 1) := by decide +kernel
theorem dX4_setFinding_0 : decode cX4_setFinding 0 = .ok (.iload_n 1, 1) := by decide +kernel
theorem dX4_setFinding_1 : decode cX4_setFinding 1 = .ok (.iconst 1, 1) := by decide +kernel
theorem dX4_setFinding_2 : decode cX4_setFinding 2 = .ok (.bipush 100, 2) := by decide +kernel
theorem dX4_setFinding_4 : decode cX4_setFinding 4 = .ok (.invokestatic 47, 3) := by decide +kernel
theorem dX4_setFinding_7 : decode cX4_setFinding 7 = .ok (.ifCond .eq 13, 3) := by decide +kernel
theorem dX4_setFinding_10 : decode cX4_setFinding 10 = .ok (.iload_n 2, 1) := by decide +kernel
theorem dX4_setFinding_11 : decode cX4_setFinding 11 = .ok (.iconst 1, 1) := by decide +kernel
theorem dX4_setFinding_12 : decode cX4_setFinding 12 = .ok (.bipush 50, 2) := by decide +kernel
theorem dX4_setFinding_14 : decode cX4_setFinding 14 = .ok (.invokestatic 47, 3) := by decide +kernel
theorem dX4_setFinding_17 : decode cX4_setFinding 17 = .ok (.ifCond .ne 6, 3) := by decide +kernel
theorem dX4_setFinding_20 : decode cX4_setFinding 20 = .ok (.ldc 51, 2) := by decide +kernel
theorem dX4_setFinding_22 : decode cX4_setFinding 22 = .ok (.ireturn, 1) := by decide +kernel
theorem dX4_setFinding_23 : decode cX4_setFinding 23 = .ok (.aload_n 0, 1) := by decide +kernel
theorem dX4_setFinding_24 : decode cX4_setFinding 24 = .ok (.invokevirtual 52, 3) := by decide +kernel
theorem dX4_setFinding_27 : decode cX4_setFinding 27 = .ok (.bipush 100, 2) := by decide +kernel
theorem dX4_setFinding_29 : decode cX4_setFinding 29 = .ok (.aload_n 0, 1) := by decide +kernel
theorem dX4_setFinding_30 : decode cX4_setFinding 30 = .ok (.getfield 35, 3) := by decide +kernel
theorem dX4_setFinding_33 : decode cX4_setFinding 33 = .ok (.getfield 81, 3) := by decide +kernel
theorem dX4_setFinding_36 : decode cX4_setFinding 36 = .ok (.imul, 1) := by decide +kernel
theorem dX4_setFinding_37 : decode cX4_setFinding 37 = .ok (.aload_n 0, 1) := by decide +kernel
theorem dX4_setFinding_38 : decode cX4_setFinding 38 = .ok (.getfield 35, 3) := by decide +kernel
theorem dX4_setFinding_41 : decode cX4_setFinding 41 = .ok (.getfield 84, 3) := by decide +kernel
theorem dX4_setFinding_44 : decode cX4_setFinding 44 = .ok (.iadd, 1) := by decide +kernel
theorem dX4_setFinding_45 : decode cX4_setFinding 45 = .ok (.istore_n 3, 1) := by decide +kernel
theorem dX4_setFinding_46 : decode cX4_setFinding 46 = .ok (.aload_n 0, 1) := by decide +kernel
theorem dX4_setFinding_47 : decode cX4_setFinding 47 = .ok (.getfield 35, 3) := by decide +kernel
theorem dX4_setFinding_50 : decode cX4_setFinding 50 = .ok (.iload_n 1, 1) := by decide +kernel
theorem dX4_setFinding_51 : decode cX4_setFinding 51 = .ok (.putfield 81, 3) := by decide +kernel
theorem dX4_setFinding_54 : decode cX4_setFinding 54 = .ok (.aload_n 0, 1) := by decide +kernel
theorem dX4_setFinding_55 : decode cX4_setFinding 55 = .ok (.getfield 35, 3) := by decide +kernel
theorem dX4_setFinding_58 : decode cX4_setFinding 58 = .ok (.iload_n 2, 1) := by decide +kernel
theorem dX4_setFinding_59 : decode cX4_setFinding 59 = .ok (.putfield 84, 3) := by decide +kernel
theorem dX4_setFinding_62 : decode cX4_setFinding 62 = .ok (.iload_n 3, 1) := by decide +kernel
theorem dX4_setFinding_63 : decode cX4_setFinding 63 = .ok (.ireturn, 1) := by decide +kernel
theorem dX4_setValves_0 : decode cX4_setValves 0 = .ok (.iload_n 1, 1) := by decide +kernel
theorem dX4_setValves_1 : decode cX4_setValves 1 = .ok (.invokestatic 58, 3) := by decide +kernel
theorem dX4_setValves_4 : decode cX4_setValves 4 = .ok (.ifCond .eq 15, 3) := by decide +kernel
theorem dX4_setValves_7 : decode cX4_setValves 7 = .ok (.iload_n 2, 1) := by decide +kernel
theorem dX4_setValves_8 : decode cX4_setValves 8 = .ok (.iload_n 3, 1) := by decide +kernel
theorem dX4_setValves_9 : decode cX4_setValves 9 = .ok (.iload 4, 2) := by decide +kernel
theorem dX4_setValves_11 : decode cX4_setValves 11 = .ok (.iload 5, 2) := by decide +kernel
theorem dX4_setValves_13 : decode cX4_setValves 13 = .ok (.invokestatic 87, 3) := by decide +kernel
theorem dX4_setValves_16 : decode cX4_setValves 16 = .ok (.ifCond .ne 6, 3) := by decide +kernel
theorem dX4_setValves_19 : decode cX4_setValves 19 = .ok (.ldc 51, 2) := by decide +kernel
theorem dX4_setValves_21 : decode cX4_setValves 21 = .ok (.ireturn, 1) := by decide +kernel
theorem dX4_setValves_22 : decode cX4_setValves 22 = .ok (.aload_n 0, 1) := by decide +kernel
theorem dX4_setValves_23 : decode cX4_setValves 23 = .ok (.invokevirtual 52, 3) := by decide +kernel
theorem dX4_setValves_26 : decode cX4_setValves 26 = .ok (.aload_n 0, 1) := by decide +kernel
theorem dX4_setValves_27 : decode cX4_setValves 27 = .ok (.getfield 35, 3) := by decide +kernel
theorem dX4_setValves_30 : decode cX4_setValves 30 = .ok (.iload_n 1, 1) := by decide +kernel
theorem dX4_setValves_31 : decode cX4_setValves 31 = .ok (.invokevirtual 91, 3) := by decide +kernel
theorem dX4_setValves_34 : decode cX4_setValves 34 = .ok (.astore 6, 2) := by decide +kernel
theorem dX4_setValves_36 : decode cX4_setValves 36 = .ok (.aload 6, 2) := by decide +kernel
theorem dX4_setValves_38 : decode cX4_setValves 38 = .ok (.iload_n 2, 1) := by decide +kernel
theorem dX4_setValves_39 : decode cX4_setValves 39 = .ok (.putfield 95, 3) := by decide +kernel
theorem dX4_setValves_42 : decode cX4_setValves 42 = .ok (.aload 6, 2) := by decide +kernel
theorem dX4_setValves_44 : decode cX4_setValves 44 = .ok (.iload_n 3, 1) := by decide +kernel
theorem dX4_setValves_45 : decode cX4_setValves 45 = .ok (.putfield 98, 3) := by decide +kernel
theorem dX4_setValves_48 : decode cX4_setValves 48 = .ok (.aload 6, 2) := by decide +kernel
theorem dX4_setValves_50 : decode cX4_setValves 50 = .ok (.iload 4, 2) := by decide +kernel
theorem dX4_setValves_52 : decode cX4_setValves 52 = .ok (.putfield 101, 3) := by decide +kernel
theorem dX4_setValves_55 : decode cX4_setValves 55 = .ok (.aload 6, 2) := by decide +kernel
theorem dX4_setValves_57 : decode cX4_setValves 57 = .ok (.iload 5, 2) := by decide +kernel
theorem dX4_setValves_59 : decode cX4_setValves 59 = .ok (.putfield 104, 3) := by decide +kernel
theorem dX4_setValves_62 : decode cX4_setValves 62 = .ok (.iconst 0, 1) := by decide +kernel
theorem dX4_setValves_63 : decode cX4_setValves 63 = .ok (.ireturn, 1) := by decide +kernel
theorem dX4_valve_0 : decode cX4_valve 0 = .ok (.iload_n 1, 1) := by decide +kernel
theorem dX4_valve_1 : decode cX4_valve 1 = .ok (.invokestatic 58, 3) := by decide +kernel
theorem dX4_valve_4 : decode cX4_valve 4 = .ok (.ifCond .eq 10, 3) := by decide +kernel
theorem dX4_valve_7 : decode cX4_valve 7 = .ok (.iload_n 2, 1) := by decide +kernel
theorem dX4_valve_8 : decode cX4_valve 8 = .ok (.invokestatic 107, 3) := by decide +kernel
theorem dX4_valve_11 : decode cX4_valve 11 = .ok (.ifCond .ne 6, 3) := by decide +kernel
theorem dX4_valve_14 : decode cX4_valve 14 = .ok (.ldc 51, 2) := by decide +kernel
theorem dX4_valve_16 : decode cX4_valve 16 = .ok (.ireturn, 1) := by decide +kernel
theorem dX4_valve_17 : decode cX4_valve 17 = .ok (.aload_n 0, 1) := by decide +kernel
theorem dX4_valve_18 : decode cX4_valve 18 = .ok (.getfield 35, 3) := by decide +kernel
theorem dX4_valve_21 : decode cX4_valve 21 = .ok (.iload_n 1, 1) := by decide +kernel
theorem dX4_valve_22 : decode cX4_valve 22 = .ok (.invokevirtual 91, 3) := by decide +kernel
theorem dX4_valve_25 : decode cX4_valve 25 = .ok (.iload_n 2, 1) := by decide +kernel
theorem dX4_valve_26 : decode cX4_valve 26 = .ok (.invokevirtual 110, 3) := by decide +kernel
theorem dX4_valve_29 : decode cX4_valve 29 = .ok (.ireturn, 1) := by decide +kernel
theorem dX4_beginCard_0 : decode cX4_beginCard 0 = .ok (.iload_n 1, 1) := by decide +kernel
theorem dX4_beginCard_1 : decode cX4_beginCard 1 = .ok (.invokestatic 58, 3) := by decide +kernel
theorem dX4_beginCard_4 : decode cX4_beginCard 4 = .ok (.ifCond .eq 10, 3) := by decide +kernel
theorem dX4_beginCard_7 : decode cX4_beginCard 7 = .ok (.iload_n 2, 1) := by decide +kernel
theorem dX4_beginCard_8 : decode cX4_beginCard 8 = .ok (.invokestatic 113, 3) := by decide +kernel
theorem dX4_beginCard_11 : decode cX4_beginCard 11 = .ok (.ifCond .ne 6, 3) := by decide +kernel
theorem dX4_beginCard_14 : decode cX4_beginCard 14 = .ok (.ldc 51, 2) := by decide +kernel
theorem dX4_beginCard_16 : decode cX4_beginCard 16 = .ok (.ireturn, 1) := by decide +kernel
theorem dX4_beginCard_17 : decode cX4_beginCard 17 = .ok (.aload_n 0, 1) := by decide +kernel
theorem dX4_beginCard_18 : decode cX4_beginCard 18 = .ok (.invokevirtual 52, 3) := by decide +kernel
theorem dX4_beginCard_21 : decode cX4_beginCard 21 = .ok (.aload_n 0, 1) := by decide +kernel
theorem dX4_beginCard_22 : decode cX4_beginCard 22 = .ok (.getfield 35, 3) := by decide +kernel
theorem dX4_beginCard_25 : decode cX4_beginCard 25 = .ok (.getfield 116, 3) := by decide +kernel
theorem dX4_beginCard_28 : decode cX4_beginCard 28 = .ok (.getfield 120, 3) := by decide +kernel
theorem dX4_beginCard_31 : decode cX4_beginCard 31 = .ok (.ifCond .eq 7, 3) := by decide +kernel
theorem dX4_beginCard_34 : decode cX4_beginCard 34 = .ok (.iconst 1, 1) := by decide +kernel
theorem dX4_beginCard_35 : decode cX4_beginCard 35 = .ok (.goto 4, 3) := by decide +kernel
theorem dX4_beginCard_38 : decode cX4_beginCard 38 = .ok (.iconst 0, 1) := by decide +kernel
theorem dX4_beginCard_39 : decode cX4_beginCard 39 = .ok (.istore_n 3, 1) := by decide +kernel
theorem dX4_beginCard_40 : decode cX4_beginCard 40 = .ok (.aload_n 0, 1) := by decide +kernel
theorem dX4_beginCard_41 : decode cX4_beginCard 41 = .ok (.getfield 35, 3) := by decide +kernel
theorem dX4_beginCard_44 : decode cX4_beginCard 44 = .ok (.getfield 116, 3) := by decide +kernel
theorem dX4_beginCard_47 : decode cX4_beginCard 47 = .ok (.iload_n 1, 1) := by decide +kernel
theorem dX4_beginCard_48 : decode cX4_beginCard 48 = .ok (.iload_n 2, 1) := by decide +kernel
theorem dX4_beginCard_49 : decode cX4_beginCard 49 = .ok (.invokevirtual 126, 3) := by decide +kernel
theorem dX4_beginCard_52 : decode cX4_beginCard 52 = .ok (.iload_n 3, 1) := by decide +kernel
theorem dX4_beginCard_53 : decode cX4_beginCard 53 = .ok (.ireturn, 1) := by decide +kernel
theorem dX4_setPoint_0 : decode cX4_setPoint 0 = .ok (.iload_n 1, 1) := by decide +kernel
theorem dX4_setPoint_1 : decode cX4_setPoint 1 = .ok (.invokestatic 130, 3) := by decide +kernel
theorem dX4_setPoint_4 : decode cX4_setPoint 4 = .ok (.ifCond .eq 21, 3) := by decide +kernel
theorem dX4_setPoint_7 : decode cX4_setPoint 7 = .ok (.iload_n 2, 1) := by decide +kernel
theorem dX4_setPoint_8 : decode cX4_setPoint 8 = .ok (.invokestatic 133, 3) := by decide +kernel
theorem dX4_setPoint_11 : decode cX4_setPoint 11 = .ok (.ifCond .eq 14, 3) := by decide +kernel
theorem dX4_setPoint_14 : decode cX4_setPoint 14 = .ok (.iload_n 3, 1) := by decide +kernel
theorem dX4_setPoint_15 : decode cX4_setPoint 15 = .ok (.iconst 0, 1) := by decide +kernel
theorem dX4_setPoint_16 : decode cX4_setPoint 16 = .ok (.sipush 5000, 3) := by decide +kernel
theorem dX4_setPoint_19 : decode cX4_setPoint 19 = .ok (.invokestatic 47, 3) := by decide +kernel
theorem dX4_setPoint_22 : decode cX4_setPoint 22 = .ok (.ifCond .ne 6, 3) := by decide +kernel
theorem dX4_setPoint_25 : decode cX4_setPoint 25 = .ok (.ldc 51, 2) := by decide +kernel
theorem dX4_setPoint_27 : decode cX4_setPoint 27 = .ok (.ireturn, 1) := by decide +kernel
theorem dX4_setPoint_28 : decode cX4_setPoint 28 = .ok (.aload_n 0, 1) := by decide +kernel
theorem dX4_setPoint_29 : decode cX4_setPoint 29 = .ok (.getfield 35, 3) := by decide +kernel
theorem dX4_setPoint_32 : decode cX4_setPoint 32 = .ok (.getfield 116, 3) := by decide +kernel
theorem dX4_setPoint_35 : decode cX4_setPoint 35 = .ok (.getfield 120, 3) := by decide +kernel
theorem dX4_setPoint_38 : decode cX4_setPoint 38 = .ok (.ifCond .ne 6, 3) := by decide +kernel
theorem dX4_setPoint_41 : decode cX4_setPoint 41 = .ok (.ldc 136, 2) := by decide +kernel
theorem dX4_setPoint_43 : decode cX4_setPoint 43 = .ok (.ireturn, 1) := by decide +kernel
theorem dX4_setPoint_44 : decode cX4_setPoint 44 = .ok (.aload_n 0, 1) := by decide +kernel
theorem dX4_setPoint_45 : decode cX4_setPoint 45 = .ok (.invokevirtual 52, 3) := by decide +kernel
theorem dX4_setPoint_48 : decode cX4_setPoint 48 = .ok (.aload_n 0, 1) := by decide +kernel
theorem dX4_setPoint_49 : decode cX4_setPoint 49 = .ok (.getfield 35, 3) := by decide +kernel
theorem dX4_setPoint_52 : decode cX4_setPoint 52 = .ok (.getfield 116, 3) := by decide +kernel
theorem dX4_setPoint_55 : decode cX4_setPoint 55 = .ok (.iload_n 1, 1) := by decide +kernel
theorem dX4_setPoint_56 : decode cX4_setPoint 56 = .ok (.invokevirtual 137, 3) := by decide +kernel
theorem dX4_setPoint_59 : decode cX4_setPoint 59 = .ok (.astore 4, 2) := by decide +kernel
theorem dX4_setPoint_61 : decode cX4_setPoint 61 = .ok (.aload 4, 2) := by decide +kernel
theorem dX4_setPoint_63 : decode cX4_setPoint 63 = .ok (.iload_n 2, 1) := by decide +kernel
theorem dX4_setPoint_64 : decode cX4_setPoint 64 = .ok (.iload_n 3, 1) := by decide +kernel
theorem dX4_setPoint_65 : decode cX4_setPoint 65 = .ok (.iastore, 1) := by decide +kernel
theorem dX4_setPoint_66 : decode cX4_setPoint 66 = .ok (.aload 4, 2) := by decide +kernel
theorem dX4_setPoint_68 : decode cX4_setPoint 68 = .ok (.invokestatic 141, 3) := by decide +kernel
theorem dX4_setPoint_71 : decode cX4_setPoint 71 = .ok (.ireturn, 1) := by decide +kernel
theorem dX4_finishCard_0 : decode cX4_finishCard 0 = .ok (.aload_n 0, 1) := by decide +kernel
theorem dX4_finishCard_1 : decode cX4_finishCard 1 = .ok (.getfield 35, 3) := by decide +kernel
theorem dX4_finishCard_4 : decode cX4_finishCard 4 = .ok (.getfield 116, 3) := by decide +kernel
theorem dX4_finishCard_7 : decode cX4_finishCard 7 = .ok (.astore_n 1, 1) := by decide +kernel
theorem dX4_finishCard_8 : decode cX4_finishCard 8 = .ok (.aload_n 1, 1) := by decide +kernel
theorem dX4_finishCard_9 : decode cX4_finishCard 9 = .ok (.getfield 120, 3) := by decide +kernel
theorem dX4_finishCard_12 : decode cX4_finishCard 12 = .ok (.ifCond .eq 23, 3) := by decide +kernel
theorem dX4_finishCard_15 : decode cX4_finishCard 15 = .ok (.aload_n 1, 1) := by decide +kernel
theorem dX4_finishCard_16 : decode cX4_finishCard 16 = .ok (.getfield 145, 3) := by decide +kernel
theorem dX4_finishCard_19 : decode cX4_finishCard 19 = .ok (.invokestatic 141, 3) := by decide +kernel
theorem dX4_finishCard_22 : decode cX4_finishCard 22 = .ok (.ifCond .eq 13, 3) := by decide +kernel
theorem dX4_finishCard_25 : decode cX4_finishCard 25 = .ok (.aload_n 1, 1) := by decide +kernel
theorem dX4_finishCard_26 : decode cX4_finishCard 26 = .ok (.getfield 148, 3) := by decide +kernel
theorem dX4_finishCard_29 : decode cX4_finishCard 29 = .ok (.invokestatic 141, 3) := by decide +kernel
theorem dX4_finishCard_32 : decode cX4_finishCard 32 = .ok (.ifCond .ne 6, 3) := by decide +kernel
theorem dX4_finishCard_35 : decode cX4_finishCard 35 = .ok (.ldc 136, 2) := by decide +kernel
theorem dX4_finishCard_37 : decode cX4_finishCard 37 = .ok (.ireturn, 1) := by decide +kernel
theorem dX4_finishCard_38 : decode cX4_finishCard 38 = .ok (.aload_n 0, 1) := by decide +kernel
theorem dX4_finishCard_39 : decode cX4_finishCard 39 = .ok (.getfield 35, 3) := by decide +kernel
theorem dX4_finishCard_42 : decode cX4_finishCard 42 = .ok (.getfield 151, 3) := by decide +kernel
theorem dX4_finishCard_45 : decode cX4_finishCard 45 = .ok (.bipush 10, 2) := by decide +kernel
theorem dX4_finishCard_47 : decode cX4_finishCard 47 = .ok (.if_icmp .lt 6, 3) := by decide +kernel
theorem dX4_finishCard_50 : decode cX4_finishCard 50 = .ok (.ldc 154, 2) := by decide +kernel
theorem dX4_finishCard_52 : decode cX4_finishCard 52 = .ok (.ireturn, 1) := by decide +kernel
theorem dX4_finishCard_53 : decode cX4_finishCard 53 = .ok (.aload_n 0, 1) := by decide +kernel
theorem dX4_finishCard_54 : decode cX4_finishCard 54 = .ok (.invokevirtual 52, 3) := by decide +kernel
theorem dX4_finishCard_57 : decode cX4_finishCard 57 = .ok (.new 7, 3) := by decide +kernel
theorem dX4_finishCard_60 : decode cX4_finishCard 60 = .ok (.dup, 1) := by decide +kernel
theorem dX4_finishCard_61 : decode cX4_finishCard 61 = .ok (.invokespecial 9, 3) := by decide +kernel
theorem dX4_finishCard_64 : decode cX4_finishCard 64 = .ok (.astore_n 2, 1) := by decide +kernel
theorem dX4_finishCard_65 : decode cX4_finishCard 65 = .ok (.aload_n 2, 1) := by decide +kernel
theorem dX4_finishCard_66 : decode cX4_finishCard 66 = .ok (.aload_n 1, 1) := by decide +kernel
theorem dX4_finishCard_67 : decode cX4_finishCard 67 = .ok (.getfield 155, 3) := by decide +kernel
theorem dX4_finishCard_70 : decode cX4_finishCard 70 = .ok (.putfield 158, 3) := by decide +kernel
theorem dX4_finishCard_73 : decode cX4_finishCard 73 = .ok (.aload_n 2, 1) := by decide +kernel
theorem dX4_finishCard_74 : decode cX4_finishCard 74 = .ok (.aload_n 1, 1) := by decide +kernel
theorem dX4_finishCard_75 : decode cX4_finishCard 75 = .ok (.getfield 159, 3) := by decide +kernel
theorem dX4_finishCard_78 : decode cX4_finishCard 78 = .ok (.putfield 162, 3) := by decide +kernel
theorem dX4_finishCard_81 : decode cX4_finishCard 81 = .ok (.aload_n 1, 1) := by decide +kernel
theorem dX4_finishCard_82 : decode cX4_finishCard 82 = .ok (.getfield 145, 3) := by decide +kernel
theorem dX4_finishCard_85 : decode cX4_finishCard 85 = .ok (.aload_n 2, 1) := by decide +kernel
theorem dX4_finishCard_86 : decode cX4_finishCard 86 = .ok (.getfield 163, 3) := by decide +kernel
theorem dX4_finishCard_89 : decode cX4_finishCard 89 = .ok (.invokestatic 164, 3) := by decide +kernel
theorem dX4_finishCard_92 : decode cX4_finishCard 92 = .ok (.aload_n 1, 1) := by decide +kernel
theorem dX4_finishCard_93 : decode cX4_finishCard 93 = .ok (.getfield 148, 3) := by decide +kernel
theorem dX4_finishCard_96 : decode cX4_finishCard 96 = .ok (.aload_n 2, 1) := by decide +kernel
theorem dX4_finishCard_97 : decode cX4_finishCard 97 = .ok (.getfield 168, 3) := by decide +kernel
theorem dX4_finishCard_100 : decode cX4_finishCard 100 = .ok (.invokestatic 164, 3) := by decide +kernel
theorem dX4_finishCard_103 : decode cX4_finishCard 103 = .ok (.aload_n 1, 1) := by decide +kernel
theorem dX4_finishCard_104 : decode cX4_finishCard 104 = .ok (.iconst 0, 1) := by decide +kernel
theorem dX4_finishCard_105 : decode cX4_finishCard 105 = .ok (.putfield 120, 3) := by decide +kernel
theorem dX4_finishCard_108 : decode cX4_finishCard 108 = .ok (.aload_n 0, 1) := by decide +kernel
theorem dX4_finishCard_109 : decode cX4_finishCard 109 = .ok (.aload_n 2, 1) := by decide +kernel
theorem dX4_finishCard_110 : decode cX4_finishCard 110 = .ok (.invokevirtual 169, 3) := by decide +kernel
theorem dX4_finishCard_113 : decode cX4_finishCard 113 = .ok (.ireturn, 1) := by decide +kernel
theorem dX4_addIdealCard_0 : decode cX4_addIdealCard 0 = .ok (.iload_n 1, 1) := by decide +kernel
theorem dX4_addIdealCard_1 : decode cX4_addIdealCard 1 = .ok (.invokestatic 58, 3) := by decide +kernel
theorem dX4_addIdealCard_4 : decode cX4_addIdealCard 4 = .ok (.ifCond .eq 32, 3) := by decide +kernel
theorem dX4_addIdealCard_7 : decode cX4_addIdealCard 7 = .ok (.iload_n 2, 1) := by decide +kernel
theorem dX4_addIdealCard_8 : decode cX4_addIdealCard 8 = .ok (.invokestatic 113, 3) := by decide +kernel
theorem dX4_addIdealCard_11 : decode cX4_addIdealCard 11 = .ok (.ifCond .eq 25, 3) := by decide +kernel
theorem dX4_addIdealCard_14 : decode cX4_addIdealCard 14 = .ok (.iload_n 3, 1) := by decide +kernel
theorem dX4_addIdealCard_15 : decode cX4_addIdealCard 15 = .ok (.bipush (-3), 2) := by decide +kernel
theorem dX4_addIdealCard_17 : decode cX4_addIdealCard 17 = .ok (.iconst 3, 1) := by decide +kernel
theorem dX4_addIdealCard_18 : decode cX4_addIdealCard 18 = .ok (.invokestatic 47, 3) := by decide +kernel
theorem dX4_addIdealCard_21 : decode cX4_addIdealCard 21 = .ok (.ifCond .eq 15, 3) := by decide +kernel
theorem dX4_addIdealCard_24 : decode cX4_addIdealCard 24 = .ok (.iload 4, 2) := by decide +kernel
theorem dX4_addIdealCard_26 : decode cX4_addIdealCard 26 = .ok (.bipush (-20), 2) := by decide +kernel
theorem dX4_addIdealCard_28 : decode cX4_addIdealCard 28 = .ok (.bipush 20, 2) := by decide +kernel
theorem dX4_addIdealCard_30 : decode cX4_addIdealCard 30 = .ok (.invokestatic 47, 3) := by decide +kernel
theorem dX4_addIdealCard_33 : decode cX4_addIdealCard 33 = .ok (.ifCond .ne 6, 3) := by decide +kernel
theorem dX4_addIdealCard_36 : decode cX4_addIdealCard 36 = .ok (.ldc 51, 2) := by decide +kernel
theorem dX4_addIdealCard_38 : decode cX4_addIdealCard 38 = .ok (.ireturn, 1) := by decide +kernel
theorem dX4_addIdealCard_39 : decode cX4_addIdealCard 39 = .ok (.aload_n 0, 1) := by decide +kernel
theorem dX4_addIdealCard_40 : decode cX4_addIdealCard 40 = .ok (.getfield 19, 3) := by decide +kernel
theorem dX4_addIdealCard_43 : decode cX4_addIdealCard 43 = .ok (.aload_n 0, 1) := by decide +kernel
theorem dX4_addIdealCard_44 : decode cX4_addIdealCard 44 = .ok (.getfield 35, 3) := by decide +kernel
theorem dX4_addIdealCard_47 : decode cX4_addIdealCard 47 = .ok (.iload_n 1, 1) := by decide +kernel
theorem dX4_addIdealCard_48 : decode cX4_addIdealCard 48 = .ok (.invokevirtual 91, 3) := by decide +kernel
theorem dX4_addIdealCard_51 : decode cX4_addIdealCard 51 = .ok (.iload_n 3, 1) := by decide +kernel
theorem dX4_addIdealCard_52 : decode cX4_addIdealCard 52 = .ok (.invokevirtual 173, 3) := by decide +kernel
theorem dX4_addIdealCard_55 : decode cX4_addIdealCard 55 = .ok (.aload_n 0, 1) := by decide +kernel
theorem dX4_addIdealCard_56 : decode cX4_addIdealCard 56 = .ok (.getfield 19, 3) := by decide +kernel
theorem dX4_addIdealCard_59 : decode cX4_addIdealCard 59 = .ok (.invokevirtual 177, 3) := by decide +kernel
theorem dX4_addIdealCard_62 : decode cX4_addIdealCard 62 = .ok (.ifCond .ne 6, 3) := by decide +kernel
theorem dX4_addIdealCard_65 : decode cX4_addIdealCard 65 = .ok (.ldc 136, 2) := by decide +kernel
theorem dX4_addIdealCard_67 : decode cX4_addIdealCard 67 = .ok (.ireturn, 1) := by decide +kernel
theorem dX4_addIdealCard_68 : decode cX4_addIdealCard 68 = .ok (.aload_n 0, 1) := by decide +kernel
theorem dX4_addIdealCard_69 : decode cX4_addIdealCard 69 = .ok (.getfield 35, 3) := by decide +kernel
theorem dX4_addIdealCard_72 : decode cX4_addIdealCard 72 = .ok (.getfield 151, 3) := by decide +kernel
theorem dX4_addIdealCard_75 : decode cX4_addIdealCard 75 = .ok (.bipush 10, 2) := by decide +kernel
theorem dX4_addIdealCard_77 : decode cX4_addIdealCard 77 = .ok (.if_icmp .lt 6, 3) := by decide +kernel
theorem dX4_addIdealCard_80 : decode cX4_addIdealCard 80 = .ok (.ldc 154, 2) := by decide +kernel
theorem dX4_addIdealCard_82 : decode cX4_addIdealCard 82 = .ok (.ireturn, 1) := by decide +kernel
theorem dX4_addIdealCard_83 : decode cX4_addIdealCard 83 = .ok (.aload_n 0, 1) := by decide +kernel
theorem dX4_addIdealCard_84 : decode cX4_addIdealCard 84 = .ok (.invokevirtual 52, 3) := by decide +kernel
theorem dX4_addIdealCard_87 : decode cX4_addIdealCard 87 = .ok (.new 7, 3) := by decide +kernel
theorem dX4_addIdealCard_90 : decode cX4_addIdealCard 90 = .ok (.dup, 1) := by decide +kernel
theorem dX4_addIdealCard_91 : decode cX4_addIdealCard 91 = .ok (.invokespecial 9, 3) := by decide +kernel
theorem dX4_addIdealCard_94 : decode cX4_addIdealCard 94 = .ok (.astore 5, 2) := by decide +kernel
theorem dX4_addIdealCard_96 : decode cX4_addIdealCard 96 = .ok (.aload 5, 2) := by decide +kernel
theorem dX4_addIdealCard_98 : decode cX4_addIdealCard 98 = .ok (.iload_n 1, 1) := by decide +kernel
theorem dX4_addIdealCard_99 : decode cX4_addIdealCard 99 = .ok (.putfield 158, 3) := by decide +kernel
theorem dX4_addIdealCard_102 : decode cX4_addIdealCard 102 = .ok (.aload 5, 2) := by decide +kernel
theorem dX4_addIdealCard_104 : decode cX4_addIdealCard 104 = .ok (.iload_n 2, 1) := by decide +kernel
theorem dX4_addIdealCard_105 : decode cX4_addIdealCard 105 = .ok (.putfield 162, 3) := by decide +kernel
theorem dX4_addIdealCard_108 : decode cX4_addIdealCard 108 = .ok (.aload_n 0, 1) := by decide +kernel
theorem dX4_addIdealCard_109 : decode cX4_addIdealCard 109 = .ok (.aload 5, 2) := by decide +kernel
theorem dX4_addIdealCard_111 : decode cX4_addIdealCard 111 = .ok (.aload_n 0, 1) := by decide +kernel
theorem dX4_addIdealCard_112 : decode cX4_addIdealCard 112 = .ok (.getfield 19, 3) := by decide +kernel
theorem dX4_addIdealCard_115 : decode cX4_addIdealCard 115 = .ok (.iload 4, 2) := by decide +kernel
theorem dX4_addIdealCard_117 : decode cX4_addIdealCard 117 = .ok (.invokevirtual 181, 3) := by decide +kernel
theorem dX4_addIdealCard_120 : decode cX4_addIdealCard 120 = .ok (.aload_n 0, 1) := by decide +kernel
theorem dX4_addIdealCard_121 : decode cX4_addIdealCard 121 = .ok (.aload 5, 2) := by decide +kernel
theorem dX4_addIdealCard_123 : decode cX4_addIdealCard 123 = .ok (.invokevirtual 169, 3) := by decide +kernel
theorem dX4_addIdealCard_126 : decode cX4_addIdealCard 126 = .ok (.ireturn, 1) := by decide +kernel
theorem dX4_removeCard_0 : decode cX4_removeCard 0 = .ok (.aload_n 0, 1) := by decide +kernel
theorem dX4_removeCard_1 : decode cX4_removeCard 1 = .ok (.iload_n 1, 1) := by decide +kernel
theorem dX4_removeCard_2 : decode cX4_removeCard 2 = .ok (.invokevirtual 185, 3) := by decide +kernel
theorem dX4_removeCard_5 : decode cX4_removeCard 5 = .ok (.ifCond .ne 6, 3) := by decide +kernel
theorem dX4_removeCard_8 : decode cX4_removeCard 8 = .ok (.ldc 51, 2) := by decide +kernel
theorem dX4_removeCard_10 : decode cX4_removeCard 10 = .ok (.ireturn, 1) := by decide +kernel
theorem dX4_removeCard_11 : decode cX4_removeCard 11 = .ok (.aload_n 0, 1) := by decide +kernel
theorem dX4_removeCard_12 : decode cX4_removeCard 12 = .ok (.invokevirtual 52, 3) := by decide +kernel
theorem dX4_removeCard_15 : decode cX4_removeCard 15 = .ok (.aload_n 0, 1) := by decide +kernel
theorem dX4_removeCard_16 : decode cX4_removeCard 16 = .ok (.getfield 35, 3) := by decide +kernel
theorem dX4_removeCard_19 : decode cX4_removeCard 19 = .ok (.iload_n 1, 1) := by decide +kernel
theorem dX4_removeCard_20 : decode cX4_removeCard 20 = .ok (.invokevirtual 188, 3) := by decide +kernel
theorem dX4_removeCard_23 : decode cX4_removeCard 23 = .ok (.aload_n 0, 1) := by decide +kernel
theorem dX4_removeCard_24 : decode cX4_removeCard 24 = .ok (.getfield 35, 3) := by decide +kernel
theorem dX4_removeCard_27 : decode cX4_removeCard 27 = .ok (.getfield 151, 3) := by decide +kernel
theorem dX4_removeCard_30 : decode cX4_removeCard 30 = .ok (.ireturn, 1) := by decide +kernel
theorem dX4_cardCount_0 : decode cX4_cardCount 0 = .ok (.aload_n 0, 1) := by decide +kernel
theorem dX4_cardCount_1 : decode cX4_cardCount 1 = .ok (.getfield 35, 3) := by decide +kernel
theorem dX4_cardCount_4 : decode cX4_cardCount 4 = .ok (.getfield 151, 3) := by decide +kernel
theorem dX4_cardCount_7 : decode cX4_cardCount 7 = .ok (.ireturn, 1) := by decide +kernel
theorem dX4_end_0 : decode cX4_end 0 = .ok (.aload_n 0, 1) := by decide +kernel
theorem dX4_end_1 : decode cX4_end 1 = .ok (.iload_n 1, 1) := by decide +kernel
theorem dX4_end_2 : decode cX4_end 2 = .ok (.invokevirtual 185, 3) := by decide +kernel
theorem dX4_end_5 : decode cX4_end 5 = .ok (.ifCond .eq 18, 3) := by decide +kernel
theorem dX4_end_8 : decode cX4_end 8 = .ok (.aload_n 0, 1) := by decide +kernel
theorem dX4_end_9 : decode cX4_end 9 = .ok (.getfield 35, 3) := by decide +kernel
theorem dX4_end_12 : decode cX4_end 12 = .ok (.getfield 192, 3) := by decide +kernel
theorem dX4_end_15 : decode cX4_end 15 = .ok (.iload_n 1, 1) := by decide +kernel
theorem dX4_end_16 : decode cX4_end 16 = .ok (.aaload, 1) := by decide +kernel
theorem dX4_end_17 : decode cX4_end 17 = .ok (.getfield 158, 3) := by decide +kernel
theorem dX4_end_20 : decode cX4_end 20 = .ok (.goto 5, 3) := by decide +kernel
theorem dX4_end_23 : decode cX4_end 23 = .ok (.ldc 51, 2) := by decide +kernel
theorem dX4_end_25 : decode cX4_end 25 = .ok (.ireturn, 1) := by decide +kernel
theorem dX4_speed_0 : decode cX4_speed 0 = .ok (.aload_n 0, 1) := by decide +kernel
theorem dX4_speed_1 : decode cX4_speed 1 = .ok (.iload_n 1, 1) := by decide +kernel
theorem dX4_speed_2 : decode cX4_speed 2 = .ok (.invokevirtual 185, 3) := by decide +kernel
theorem dX4_speed_5 : decode cX4_speed 5 = .ok (.ifCond .eq 18, 3) := by decide +kernel
theorem dX4_speed_8 : decode cX4_speed 8 = .ok (.aload_n 0, 1) := by decide +kernel
theorem dX4_speed_9 : decode cX4_speed 9 = .ok (.getfield 35, 3) := by decide +kernel
theorem dX4_speed_12 : decode cX4_speed 12 = .ok (.getfield 192, 3) := by decide +kernel
theorem dX4_speed_15 : decode cX4_speed 15 = .ok (.iload_n 1, 1) := by decide +kernel
theorem dX4_speed_16 : decode cX4_speed 16 = .ok (.aaload, 1) := by decide +kernel
theorem dX4_speed_17 : decode cX4_speed 17 = .ok (.getfield 162, 3) := by decide +kernel
theorem dX4_speed_20 : decode cX4_speed 20 = .ok (.goto 5, 3) := by decide +kernel
theorem dX4_speed_23 : decode cX4_speed 23 = .ok (.ldc 51, 2) := by decide +kernel
theorem dX4_speed_25 : decode cX4_speed 25 = .ok (.ireturn, 1) := by decide +kernel
theorem dX4_pressure_0 : decode cX4_pressure 0 = .ok (.aload_n 0, 1) := by decide +kernel
theorem dX4_pressure_1 : decode cX4_pressure 1 = .ok (.iload_n 1, 1) := by decide +kernel
theorem dX4_pressure_2 : decode cX4_pressure 2 = .ok (.invokevirtual 185, 3) := by decide +kernel
theorem dX4_pressure_5 : decode cX4_pressure 5 = .ok (.ifCond .eq 17, 3) := by decide +kernel
theorem dX4_pressure_8 : decode cX4_pressure 8 = .ok (.iload_n 2, 1) := by decide +kernel
theorem dX4_pressure_9 : decode cX4_pressure 9 = .ok (.invokestatic 130, 3) := by decide +kernel
theorem dX4_pressure_12 : decode cX4_pressure 12 = .ok (.ifCond .eq 10, 3) := by decide +kernel
theorem dX4_pressure_15 : decode cX4_pressure 15 = .ok (.iload_n 3, 1) := by decide +kernel
theorem dX4_pressure_16 : decode cX4_pressure 16 = .ok (.invokestatic 133, 3) := by decide +kernel
theorem dX4_pressure_19 : decode cX4_pressure 19 = .ok (.ifCond .ne 6, 3) := by decide +kernel
theorem dX4_pressure_22 : decode cX4_pressure 22 = .ok (.ldc 51, 2) := by decide +kernel
theorem dX4_pressure_24 : decode cX4_pressure 24 = .ok (.ireturn, 1) := by decide +kernel
theorem dX4_pressure_25 : decode cX4_pressure 25 = .ok (.aload_n 0, 1) := by decide +kernel
theorem dX4_pressure_26 : decode cX4_pressure 26 = .ok (.getfield 35, 3) := by decide +kernel
theorem dX4_pressure_29 : decode cX4_pressure 29 = .ok (.getfield 192, 3) := by decide +kernel
theorem dX4_pressure_32 : decode cX4_pressure 32 = .ok (.iload_n 1, 1) := by decide +kernel
theorem dX4_pressure_33 : decode cX4_pressure 33 = .ok (.aaload, 1) := by decide +kernel
theorem dX4_pressure_34 : decode cX4_pressure 34 = .ok (.iload_n 2, 1) := by decide +kernel
theorem dX4_pressure_35 : decode cX4_pressure 35 = .ok (.invokevirtual 196, 3) := by decide +kernel
theorem dX4_pressure_38 : decode cX4_pressure 38 = .ok (.iload_n 3, 1) := by decide +kernel
theorem dX4_pressure_39 : decode cX4_pressure 39 = .ok (.iaload, 1) := by decide +kernel
theorem dX4_pressure_40 : decode cX4_pressure 40 = .ok (.ireturn, 1) := by decide +kernel
theorem dX4_area_0 : decode cX4_area 0 = .ok (.aload_n 0, 1) := by decide +kernel
theorem dX4_area_1 : decode cX4_area 1 = .ok (.iload_n 1, 1) := by decide +kernel
theorem dX4_area_2 : decode cX4_area 2 = .ok (.invokevirtual 185, 3) := by decide +kernel
theorem dX4_area_5 : decode cX4_area 5 = .ok (.ifCond .eq 18, 3) := by decide +kernel
theorem dX4_area_8 : decode cX4_area 8 = .ok (.aload_n 0, 1) := by decide +kernel
theorem dX4_area_9 : decode cX4_area 9 = .ok (.getfield 35, 3) := by decide +kernel
theorem dX4_area_12 : decode cX4_area 12 = .ok (.getfield 192, 3) := by decide +kernel
theorem dX4_area_15 : decode cX4_area 15 = .ok (.iload_n 1, 1) := by decide +kernel
theorem dX4_area_16 : decode cX4_area 16 = .ok (.aaload, 1) := by decide +kernel
theorem dX4_area_17 : decode cX4_area 17 = .ok (.invokevirtual 199, 3) := by decide +kernel
theorem dX4_area_20 : decode cX4_area 20 = .ok (.goto 5, 3) := by decide +kernel
theorem dX4_area_23 : decode cX4_area 23 = .ok (.ldc 51, 2) := by decide +kernel
theorem dX4_area_25 : decode cX4_area 25 = .ok (.ireturn, 1) := by decide +kernel
theorem dX4_forwardArea_0 : decode cX4_forwardArea 0 = .ok (.aload_n 0, 1) := by decide +kernel
theorem dX4_forwardArea_1 : decode cX4_forwardArea 1 = .ok (.iload_n 1, 1) := by decide +kernel
theorem dX4_forwardArea_2 : decode cX4_forwardArea 2 = .ok (.invokevirtual 185, 3) := by decide +kernel
theorem dX4_forwardArea_5 : decode cX4_forwardArea 5 = .ok (.ifCond .eq 18, 3) := by decide +kernel
theorem dX4_forwardArea_8 : decode cX4_forwardArea 8 = .ok (.aload_n 0, 1) := by decide +kernel
theorem dX4_forwardArea_9 : decode cX4_forwardArea 9 = .ok (.getfield 35, 3) := by decide +kernel
theorem dX4_forwardArea_12 : decode cX4_forwardArea 12 = .ok (.getfield 192, 3) := by decide +kernel
theorem dX4_forwardArea_15 : decode cX4_forwardArea 15 = .ok (.iload_n 1, 1) := by decide +kernel
theorem dX4_forwardArea_16 : decode cX4_forwardArea 16 = .ok (.aaload, 1) := by decide +kernel
theorem dX4_forwardArea_17 : decode cX4_forwardArea 17 = .ok (.invokevirtual 203, 3) := by decide +kernel
theorem dX4_forwardArea_20 : decode cX4_forwardArea 20 = .ok (.goto 5, 3) := by decide +kernel
theorem dX4_forwardArea_23 : decode cX4_forwardArea 23 = .ok (.ldc 51, 2) := by decide +kernel
theorem dX4_forwardArea_25 : decode cX4_forwardArea 25 = .ok (.ireturn, 1) := by decide +kernel
theorem dX4_loopArea_0 : decode cX4_loopArea 0 = .ok (.aload_n 0, 1) := by decide +kernel
theorem dX4_loopArea_1 : decode cX4_loopArea 1 = .ok (.iload_n 1, 1) := by decide +kernel
theorem dX4_loopArea_2 : decode cX4_loopArea 2 = .ok (.invokevirtual 185, 3) := by decide +kernel
theorem dX4_loopArea_5 : decode cX4_loopArea 5 = .ok (.ifCond .eq 18, 3) := by decide +kernel
theorem dX4_loopArea_8 : decode cX4_loopArea 8 = .ok (.aload_n 0, 1) := by decide +kernel
theorem dX4_loopArea_9 : decode cX4_loopArea 9 = .ok (.getfield 35, 3) := by decide +kernel
theorem dX4_loopArea_12 : decode cX4_loopArea 12 = .ok (.getfield 192, 3) := by decide +kernel
theorem dX4_loopArea_15 : decode cX4_loopArea 15 = .ok (.iload_n 1, 1) := by decide +kernel
theorem dX4_loopArea_16 : decode cX4_loopArea 16 = .ok (.aaload, 1) := by decide +kernel
theorem dX4_loopArea_17 : decode cX4_loopArea 17 = .ok (.invokevirtual 206, 3) := by decide +kernel
theorem dX4_loopArea_20 : decode cX4_loopArea 20 = .ok (.goto 5, 3) := by decide +kernel
theorem dX4_loopArea_23 : decode cX4_loopArea 23 = .ok (.ldc 51, 2) := by decide +kernel
theorem dX4_loopArea_25 : decode cX4_loopArea 25 = .ok (.ireturn, 1) := by decide +kernel
theorem dX4_loopStations_0 : decode cX4_loopStations 0 = .ok (.aload_n 0, 1) := by decide +kernel
theorem dX4_loopStations_1 : decode cX4_loopStations 1 = .ok (.iload_n 1, 1) := by decide +kernel
theorem dX4_loopStations_2 : decode cX4_loopStations 2 = .ok (.invokevirtual 185, 3) := by decide +kernel
theorem dX4_loopStations_5 : decode cX4_loopStations 5 = .ok (.ifCond .eq 18, 3) := by decide +kernel
theorem dX4_loopStations_8 : decode cX4_loopStations 8 = .ok (.aload_n 0, 1) := by decide +kernel
theorem dX4_loopStations_9 : decode cX4_loopStations 9 = .ok (.getfield 35, 3) := by decide +kernel
theorem dX4_loopStations_12 : decode cX4_loopStations 12 = .ok (.getfield 192, 3) := by decide +kernel
theorem dX4_loopStations_15 : decode cX4_loopStations 15 = .ok (.iload_n 1, 1) := by decide +kernel
theorem dX4_loopStations_16 : decode cX4_loopStations 16 = .ok (.aaload, 1) := by decide +kernel
theorem dX4_loopStations_17 : decode cX4_loopStations 17 = .ok (.invokevirtual 209, 3) := by decide +kernel
theorem dX4_loopStations_20 : decode cX4_loopStations 20 = .ok (.goto 5, 3) := by decide +kernel
theorem dX4_loopStations_23 : decode cX4_loopStations 23 = .ok (.ldc 51, 2) := by decide +kernel
theorem dX4_loopStations_25 : decode cX4_loopStations 25 = .ok (.ireturn, 1) := by decide +kernel
theorem dX4_meanPressure_0 : decode cX4_meanPressure 0 = .ok (.aload_n 0, 1) := by decide +kernel
theorem dX4_meanPressure_1 : decode cX4_meanPressure 1 = .ok (.iload_n 1, 1) := by decide +kernel
theorem dX4_meanPressure_2 : decode cX4_meanPressure 2 = .ok (.invokevirtual 185, 3) := by decide +kernel
theorem dX4_meanPressure_5 : decode cX4_meanPressure 5 = .ok (.ifCond .ne 6, 3) := by decide +kernel
theorem dX4_meanPressure_8 : decode cX4_meanPressure 8 = .ok (.ldc 51, 2) := by decide +kernel
theorem dX4_meanPressure_10 : decode cX4_meanPressure 10 = .ok (.ireturn, 1) := by decide +kernel
theorem dX4_meanPressure_11 : decode cX4_meanPressure 11 = .ok (.aload_n 0, 1) := by decide +kernel
theorem dX4_meanPressure_12 : decode cX4_meanPressure 12 = .ok (.getfield 35, 3) := by decide +kernel
theorem dX4_meanPressure_15 : decode cX4_meanPressure 15 = .ok (.getfield 192, 3) := by decide +kernel
theorem dX4_meanPressure_18 : decode cX4_meanPressure 18 = .ok (.iload_n 1, 1) := by decide +kernel
theorem dX4_meanPressure_19 : decode cX4_meanPressure 19 = .ok (.aaload, 1) := by decide +kernel
theorem dX4_meanPressure_20 : decode cX4_meanPressure 20 = .ok (.invokevirtual 199, 3) := by decide +kernel
theorem dX4_meanPressure_23 : decode cX4_meanPressure 23 = .ok (.sipush 1000, 3) := by decide +kernel
theorem dX4_meanPressure_26 : decode cX4_meanPressure 26 = .ok (.imul, 1) := by decide +kernel
theorem dX4_meanPressure_27 : decode cX4_meanPressure 27 = .ok (.bipush 40, 2) := by decide +kernel
theorem dX4_meanPressure_29 : decode cX4_meanPressure 29 = .ok (.invokestatic 212, 3) := by decide +kernel
theorem dX4_meanPressure_32 : decode cX4_meanPressure 32 = .ok (.ireturn, 1) := by decide +kernel
theorem dX4_power_0 : decode cX4_power 0 = .ok (.aload_n 0, 1) := by decide +kernel
theorem dX4_power_1 : decode cX4_power 1 = .ok (.iload_n 1, 1) := by decide +kernel
theorem dX4_power_2 : decode cX4_power 2 = .ok (.invokevirtual 185, 3) := by decide +kernel
theorem dX4_power_5 : decode cX4_power 5 = .ok (.ifCond .eq 19, 3) := by decide +kernel
theorem dX4_power_8 : decode cX4_power 8 = .ok (.aload_n 0, 1) := by decide +kernel
theorem dX4_power_9 : decode cX4_power 9 = .ok (.aload_n 0, 1) := by decide +kernel
theorem dX4_power_10 : decode cX4_power 10 = .ok (.getfield 35, 3) := by decide +kernel
theorem dX4_power_13 : decode cX4_power 13 = .ok (.getfield 192, 3) := by decide +kernel
theorem dX4_power_16 : decode cX4_power 16 = .ok (.iload_n 1, 1) := by decide +kernel
theorem dX4_power_17 : decode cX4_power 17 = .ok (.aaload, 1) := by decide +kernel
theorem dX4_power_18 : decode cX4_power 18 = .ok (.invokevirtual 216, 3) := by decide +kernel
theorem dX4_power_21 : decode cX4_power 21 = .ok (.goto 6, 3) := by decide +kernel
theorem dX4_power_24 : decode cX4_power 24 = .ok (.ldc2_w 220, 3) := by decide +kernel
theorem dX4_power_27 : decode cX4_power 27 = .ok (.lreturn, 1) := by decide +kernel
theorem dX4_event_0 : decode cX4_event 0 = .ok (.aload_n 0, 1) := by decide +kernel
theorem dX4_event_1 : decode cX4_event 1 = .ok (.iload_n 1, 1) := by decide +kernel
theorem dX4_event_2 : decode cX4_event 2 = .ok (.invokevirtual 185, 3) := by decide +kernel
theorem dX4_event_5 : decode cX4_event 5 = .ok (.ifCond .eq 10, 3) := by decide +kernel
theorem dX4_event_8 : decode cX4_event 8 = .ok (.iload_n 2, 1) := by decide +kernel
theorem dX4_event_9 : decode cX4_event 9 = .ok (.invokestatic 107, 3) := by decide +kernel
theorem dX4_event_12 : decode cX4_event 12 = .ok (.ifCond .ne 6, 3) := by decide +kernel
theorem dX4_event_15 : decode cX4_event 15 = .ok (.ldc 51, 2) := by decide +kernel
theorem dX4_event_17 : decode cX4_event 17 = .ok (.ireturn, 1) := by decide +kernel
theorem dX4_event_18 : decode cX4_event 18 = .ok (.aload_n 0, 1) := by decide +kernel
theorem dX4_event_19 : decode cX4_event 19 = .ok (.aload_n 0, 1) := by decide +kernel
theorem dX4_event_20 : decode cX4_event 20 = .ok (.getfield 35, 3) := by decide +kernel
theorem dX4_event_23 : decode cX4_event 23 = .ok (.getfield 192, 3) := by decide +kernel
theorem dX4_event_26 : decode cX4_event 26 = .ok (.iload_n 1, 1) := by decide +kernel
theorem dX4_event_27 : decode cX4_event 27 = .ok (.aaload, 1) := by decide +kernel
theorem dX4_event_28 : decode cX4_event 28 = .ok (.invokevirtual 222, 3) := by decide +kernel
theorem dX4_event_31 : decode cX4_event 31 = .ok (.aload_n 0, 1) := by decide +kernel
theorem dX4_event_32 : decode cX4_event 32 = .ok (.getfield 23, 3) := by decide +kernel
theorem dX4_event_35 : decode cX4_event 35 = .ok (.iload_n 2, 1) := by decide +kernel
theorem dX4_event_36 : decode cX4_event 36 = .ok (.invokevirtual 110, 3) := by decide +kernel
theorem dX4_event_39 : decode cX4_event 39 = .ok (.ireturn, 1) := by decide +kernel
theorem dX4_lateness_0 : decode cX4_lateness 0 = .ok (.aload_n 0, 1) := by decide +kernel
theorem dX4_lateness_1 : decode cX4_lateness 1 = .ok (.iload_n 1, 1) := by decide +kernel
theorem dX4_lateness_2 : decode cX4_lateness 2 = .ok (.invokevirtual 185, 3) := by decide +kernel
theorem dX4_lateness_5 : decode cX4_lateness 5 = .ok (.ifCond .eq 10, 3) := by decide +kernel
theorem dX4_lateness_8 : decode cX4_lateness 8 = .ok (.iload_n 2, 1) := by decide +kernel
theorem dX4_lateness_9 : decode cX4_lateness 9 = .ok (.invokestatic 107, 3) := by decide +kernel
theorem dX4_lateness_12 : decode cX4_lateness 12 = .ok (.ifCond .ne 6, 3) := by decide +kernel
theorem dX4_lateness_15 : decode cX4_lateness 15 = .ok (.ldc 51, 2) := by decide +kernel
theorem dX4_lateness_17 : decode cX4_lateness 17 = .ok (.ireturn, 1) := by decide +kernel
theorem dX4_lateness_18 : decode cX4_lateness 18 = .ok (.aload_n 0, 1) := by decide +kernel
theorem dX4_lateness_19 : decode cX4_lateness 19 = .ok (.aload_n 0, 1) := by decide +kernel
theorem dX4_lateness_20 : decode cX4_lateness 20 = .ok (.getfield 35, 3) := by decide +kernel
theorem dX4_lateness_23 : decode cX4_lateness 23 = .ok (.getfield 192, 3) := by decide +kernel
theorem dX4_lateness_26 : decode cX4_lateness 26 = .ok (.iload_n 1, 1) := by decide +kernel
theorem dX4_lateness_27 : decode cX4_lateness 27 = .ok (.aaload, 1) := by decide +kernel
theorem dX4_lateness_28 : decode cX4_lateness 28 = .ok (.invokevirtual 222, 3) := by decide +kernel
theorem dX4_lateness_31 : decode cX4_lateness 31 = .ok (.aload_n 0, 1) := by decide +kernel
theorem dX4_lateness_32 : decode cX4_lateness 32 = .ok (.aload_n 0, 1) := by decide +kernel
theorem dX4_lateness_33 : decode cX4_lateness 33 = .ok (.getfield 35, 3) := by decide +kernel
theorem dX4_lateness_36 : decode cX4_lateness 36 = .ok (.aload_n 0, 1) := by decide +kernel
theorem dX4_lateness_37 : decode cX4_lateness 37 = .ok (.getfield 35, 3) := by decide +kernel
theorem dX4_lateness_40 : decode cX4_lateness 40 = .ok (.getfield 192, 3) := by decide +kernel
theorem dX4_lateness_43 : decode cX4_lateness 43 = .ok (.iload_n 1, 1) := by decide +kernel
theorem dX4_lateness_44 : decode cX4_lateness 44 = .ok (.aaload, 1) := by decide +kernel
theorem dX4_lateness_45 : decode cX4_lateness 45 = .ok (.getfield 158, 3) := by decide +kernel
theorem dX4_lateness_48 : decode cX4_lateness 48 = .ok (.invokevirtual 91, 3) := by decide +kernel
theorem dX4_lateness_51 : decode cX4_lateness 51 = .ok (.iload_n 2, 1) := by decide +kernel
theorem dX4_lateness_52 : decode cX4_lateness 52 = .ok (.invokevirtual 225, 3) := by decide +kernel
theorem dX4_lateness_55 : decode cX4_lateness 55 = .ok (.ireturn, 1) := by decide +kernel
theorem dX4_slip_0 : decode cX4_slip 0 = .ok (.aload_n 0, 1) := by decide +kernel
theorem dX4_slip_1 : decode cX4_slip 1 = .ok (.iload_n 1, 1) := by decide +kernel
theorem dX4_slip_2 : decode cX4_slip 2 = .ok (.invokevirtual 185, 3) := by decide +kernel
theorem dX4_slip_5 : decode cX4_slip 5 = .ok (.ifCond .ne 6, 3) := by decide +kernel
theorem dX4_slip_8 : decode cX4_slip 8 = .ok (.ldc 51, 2) := by decide +kernel
theorem dX4_slip_10 : decode cX4_slip 10 = .ok (.ireturn, 1) := by decide +kernel
theorem dX4_slip_11 : decode cX4_slip 11 = .ok (.aload_n 0, 1) := by decide +kernel
theorem dX4_slip_12 : decode cX4_slip 12 = .ok (.aload_n 0, 1) := by decide +kernel
theorem dX4_slip_13 : decode cX4_slip 13 = .ok (.getfield 35, 3) := by decide +kernel
theorem dX4_slip_16 : decode cX4_slip 16 = .ok (.getfield 192, 3) := by decide +kernel
theorem dX4_slip_19 : decode cX4_slip 19 = .ok (.iload_n 1, 1) := by decide +kernel
theorem dX4_slip_20 : decode cX4_slip 20 = .ok (.aaload, 1) := by decide +kernel
theorem dX4_slip_21 : decode cX4_slip 21 = .ok (.invokevirtual 222, 3) := by decide +kernel
theorem dX4_slip_24 : decode cX4_slip 24 = .ok (.aload_n 0, 1) := by decide +kernel
theorem dX4_slip_25 : decode cX4_slip 25 = .ok (.getfield 35, 3) := by decide +kernel
theorem dX4_slip_28 : decode cX4_slip 28 = .ok (.aload_n 0, 1) := by decide +kernel
theorem dX4_slip_29 : decode cX4_slip 29 = .ok (.getfield 35, 3) := by decide +kernel
theorem dX4_slip_32 : decode cX4_slip 32 = .ok (.getfield 192, 3) := by decide +kernel
theorem dX4_slip_35 : decode cX4_slip 35 = .ok (.iload_n 1, 1) := by decide +kernel
theorem dX4_slip_36 : decode cX4_slip 36 = .ok (.aaload, 1) := by decide +kernel
theorem dX4_slip_37 : decode cX4_slip 37 = .ok (.getfield 158, 3) := by decide +kernel
theorem dX4_slip_40 : decode cX4_slip 40 = .ok (.invokevirtual 91, 3) := by decide +kernel
theorem dX4_slip_43 : decode cX4_slip 43 = .ok (.astore_n 2, 1) := by decide +kernel
theorem dX4_slip_44 : decode cX4_slip 44 = .ok (.iconst 0, 1) := by decide +kernel
theorem dX4_slip_45 : decode cX4_slip 45 = .ok (.istore_n 3, 1) := by decide +kernel
theorem dX4_slip_46 : decode cX4_slip 46 = .ok (.aload_n 0, 1) := by decide +kernel
theorem dX4_slip_47 : decode cX4_slip 47 = .ok (.aload_n 2, 1) := by decide +kernel
theorem dX4_slip_48 : decode cX4_slip 48 = .ok (.iconst 0, 1) := by decide +kernel
theorem dX4_slip_49 : decode cX4_slip 49 = .ok (.invokevirtual 229, 3) := by decide +kernel
theorem dX4_slip_52 : decode cX4_slip 52 = .ok (.istore 4, 2) := by decide +kernel
theorem dX4_slip_54 : decode cX4_slip 54 = .ok (.iconst 1, 1) := by decide +kernel
theorem dX4_slip_55 : decode cX4_slip 55 = .ok (.istore 5, 2) := by decide +kernel
theorem dX4_slip_57 : decode cX4_slip 57 = .ok (.iload 5, 2) := by decide +kernel
theorem dX4_slip_59 : decode cX4_slip 59 = .ok (.iconst 5, 1) := by decide +kernel
theorem dX4_slip_60 : decode cX4_slip 60 = .ok (.if_icmp .gt 57, 3) := by decide +kernel
theorem dX4_slip_63 : decode cX4_slip 63 = .ok (.aload_n 0, 1) := by decide +kernel
theorem dX4_slip_64 : decode cX4_slip 64 = .ok (.aload_n 2, 1) := by decide +kernel
theorem dX4_slip_65 : decode cX4_slip 65 = .ok (.iload 5, 2) := by decide +kernel
theorem dX4_slip_67 : decode cX4_slip 67 = .ok (.ineg, 1) := by decide +kernel
theorem dX4_slip_68 : decode cX4_slip 68 = .ok (.invokevirtual 229, 3) := by decide +kernel
theorem dX4_slip_71 : decode cX4_slip 71 = .ok (.istore 6, 2) := by decide +kernel
theorem dX4_slip_73 : decode cX4_slip 73 = .ok (.iload 6, 2) := by decide +kernel
theorem dX4_slip_75 : decode cX4_slip 75 = .ok (.iload 4, 2) := by decide +kernel
theorem dX4_slip_77 : decode cX4_slip 77 = .ok (.if_icmp .ge 11, 3) := by decide +kernel
theorem dX4_slip_80 : decode cX4_slip 80 = .ok (.iload 6, 2) := by decide +kernel
theorem dX4_slip_82 : decode cX4_slip 82 = .ok (.istore 4, 2) := by decide +kernel
theorem dX4_slip_84 : decode cX4_slip 84 = .ok (.iload 5, 2) := by decide +kernel
theorem dX4_slip_86 : decode cX4_slip 86 = .ok (.ineg, 1) := by decide +kernel
theorem dX4_slip_87 : decode cX4_slip 87 = .ok (.istore_n 3, 1) := by decide +kernel
theorem dX4_slip_88 : decode cX4_slip 88 = .ok (.aload_n 0, 1) := by decide +kernel
theorem dX4_slip_89 : decode cX4_slip 89 = .ok (.aload_n 2, 1) := by decide +kernel
theorem dX4_slip_90 : decode cX4_slip 90 = .ok (.iload 5, 2) := by decide +kernel
theorem dX4_slip_92 : decode cX4_slip 92 = .ok (.invokevirtual 229, 3) := by decide +kernel
theorem dX4_slip_95 : decode cX4_slip 95 = .ok (.istore 7, 2) := by decide +kernel
theorem dX4_slip_97 : decode cX4_slip 97 = .ok (.iload 7, 2) := by decide +kernel
theorem dX4_slip_99 : decode cX4_slip 99 = .ok (.iload 4, 2) := by decide +kernel
theorem dX4_slip_101 : decode cX4_slip 101 = .ok (.if_icmp .ge 10, 3) := by decide +kernel
theorem dX4_slip_104 : decode cX4_slip 104 = .ok (.iload 7, 2) := by decide +kernel
theorem dX4_slip_106 : decode cX4_slip 106 = .ok (.istore 4, 2) := by decide +kernel
theorem dX4_slip_108 : decode cX4_slip 108 = .ok (.iload 5, 2) := by decide +kernel
theorem dX4_slip_110 : decode cX4_slip 110 = .ok (.istore_n 3, 1) := by decide +kernel
theorem dX4_slip_111 : decode cX4_slip 111 = .ok (.iinc 5 1, 3) := by decide +kernel
theorem dX4_slip_114 : decode cX4_slip 114 = .ok (.goto (-57), 3) := by decide +kernel
theorem dX4_slip_117 : decode cX4_slip 117 = .ok (.iload_n 3, 1) := by decide +kernel
theorem dX4_slip_118 : decode cX4_slip 118 = .ok (.ireturn, 1) := by decide +kernel
theorem dX4_constant_0 : decode cX4_constant 0 = .ok (.aload_n 0, 1) := by decide +kernel
theorem dX4_constant_1 : decode cX4_constant 1 = .ok (.iload_n 1, 1) := by decide +kernel
theorem dX4_constant_2 : decode cX4_constant 2 = .ok (.invokevirtual 185, 3) := by decide +kernel
theorem dX4_constant_5 : decode cX4_constant 5 = .ok (.ifCond .eq 10, 3) := by decide +kernel
theorem dX4_constant_8 : decode cX4_constant 8 = .ok (.iload_n 2, 1) := by decide +kernel
theorem dX4_constant_9 : decode cX4_constant 9 = .ok (.invokestatic 133, 3) := by decide +kernel
theorem dX4_constant_12 : decode cX4_constant 12 = .ok (.ifCond .ne 6, 3) := by decide +kernel
theorem dX4_constant_15 : decode cX4_constant 15 = .ok (.ldc 51, 2) := by decide +kernel
theorem dX4_constant_17 : decode cX4_constant 17 = .ok (.ireturn, 1) := by decide +kernel
theorem dX4_constant_18 : decode cX4_constant 18 = .ok (.aload_n 0, 1) := by decide +kernel
theorem dX4_constant_19 : decode cX4_constant 19 = .ok (.aload_n 0, 1) := by decide +kernel
theorem dX4_constant_20 : decode cX4_constant 20 = .ok (.getfield 35, 3) := by decide +kernel
theorem dX4_constant_23 : decode cX4_constant 23 = .ok (.getfield 192, 3) := by decide +kernel
theorem dX4_constant_26 : decode cX4_constant 26 = .ok (.iload_n 1, 1) := by decide +kernel
theorem dX4_constant_27 : decode cX4_constant 27 = .ok (.aaload, 1) := by decide +kernel
theorem dX4_constant_28 : decode cX4_constant 28 = .ok (.iload_n 2, 1) := by decide +kernel
theorem dX4_constant_29 : decode cX4_constant 29 = .ok (.invokevirtual 232, 3) := by decide +kernel
theorem dX4_constant_32 : decode cX4_constant 32 = .ok (.ireturn, 1) := by decide +kernel
theorem dX4_leakage_0 : decode cX4_leakage 0 = .ok (.aload_n 0, 1) := by decide +kernel
theorem dX4_leakage_1 : decode cX4_leakage 1 = .ok (.iload_n 1, 1) := by decide +kernel
theorem dX4_leakage_2 : decode cX4_leakage 2 = .ok (.invokevirtual 185, 3) := by decide +kernel
theorem dX4_leakage_5 : decode cX4_leakage 5 = .ok (.ifCond .ne 6, 3) := by decide +kernel
theorem dX4_leakage_8 : decode cX4_leakage 8 = .ok (.ldc 51, 2) := by decide +kernel
theorem dX4_leakage_10 : decode cX4_leakage 10 = .ok (.ireturn, 1) := by decide +kernel
theorem dX4_leakage_11 : decode cX4_leakage 11 = .ok (.aload_n 0, 1) := by decide +kernel
theorem dX4_leakage_12 : decode cX4_leakage 12 = .ok (.aload_n 0, 1) := by decide +kernel
theorem dX4_leakage_13 : decode cX4_leakage 13 = .ok (.getfield 35, 3) := by decide +kernel
theorem dX4_leakage_16 : decode cX4_leakage 16 = .ok (.getfield 192, 3) := by decide +kernel
theorem dX4_leakage_19 : decode cX4_leakage 19 = .ok (.iload_n 1, 1) := by decide +kernel
theorem dX4_leakage_20 : decode cX4_leakage 20 = .ok (.aaload, 1) := by decide +kernel
theorem dX4_leakage_21 : decode cX4_leakage 21 = .ok (.invokevirtual 222, 3) := by decide +kernel
theorem dX4_leakage_24 : decode cX4_leakage 24 = .ok (.aload_n 0, 1) := by decide +kernel
theorem dX4_leakage_25 : decode cX4_leakage 25 = .ok (.getfield 23, 3) := by decide +kernel
theorem dX4_leakage_28 : decode cX4_leakage 28 = .ok (.getfield 101, 3) := by decide +kernel
theorem dX4_leakage_31 : decode cX4_leakage 31 = .ok (.iconst 1, 1) := by decide +kernel
theorem dX4_leakage_32 : decode cX4_leakage 32 = .ok (.isub, 1) := by decide +kernel
theorem dX4_leakage_33 : decode cX4_leakage 33 = .ok (.istore_n 2, 1) := by decide +kernel
theorem dX4_leakage_34 : decode cX4_leakage 34 = .ok (.aload_n 0, 1) := by decide +kernel
theorem dX4_leakage_35 : decode cX4_leakage 35 = .ok (.aload_n 0, 1) := by decide +kernel
theorem dX4_leakage_36 : decode cX4_leakage 36 = .ok (.getfield 35, 3) := by decide +kernel
theorem dX4_leakage_39 : decode cX4_leakage 39 = .ok (.getfield 192, 3) := by decide +kernel
theorem dX4_leakage_42 : decode cX4_leakage 42 = .ok (.iload_n 1, 1) := by decide +kernel
theorem dX4_leakage_43 : decode cX4_leakage 43 = .ok (.aaload, 1) := by decide +kernel
theorem dX4_leakage_44 : decode cX4_leakage 44 = .ok (.aload_n 0, 1) := by decide +kernel
theorem dX4_leakage_45 : decode cX4_leakage 45 = .ok (.getfield 23, 3) := by decide +kernel
theorem dX4_leakage_48 : decode cX4_leakage 48 = .ok (.getfield 98, 3) := by decide +kernel
theorem dX4_leakage_51 : decode cX4_leakage 51 = .ok (.invokevirtual 232, 3) := by decide +kernel
theorem dX4_leakage_54 : decode cX4_leakage 54 = .ok (.istore_n 3, 1) := by decide +kernel
theorem dX4_leakage_55 : decode cX4_leakage 55 = .ok (.iload_n 2, 1) := by decide +kernel
theorem dX4_leakage_56 : decode cX4_leakage 56 = .ok (.aload_n 0, 1) := by decide +kernel
theorem dX4_leakage_57 : decode cX4_leakage 57 = .ok (.getfield 23, 3) := by decide +kernel
theorem dX4_leakage_60 : decode cX4_leakage 60 = .ok (.getfield 98, 3) := by decide +kernel
theorem dX4_leakage_63 : decode cX4_leakage 63 = .ok (.if_icmp .le 7, 3) := by decide +kernel
theorem dX4_leakage_66 : decode cX4_leakage 66 = .ok (.iload_n 3, 1) := by decide +kernel
theorem dX4_leakage_67 : decode cX4_leakage 67 = .ok (.ifCond .ne 6, 3) := by decide +kernel
theorem dX4_leakage_70 : decode cX4_leakage 70 = .ok (.ldc 236, 2) := by decide +kernel
theorem dX4_leakage_72 : decode cX4_leakage 72 = .ok (.ireturn, 1) := by decide +kernel
theorem dX4_leakage_73 : decode cX4_leakage 73 = .ok (.aload_n 0, 1) := by decide +kernel
theorem dX4_leakage_74 : decode cX4_leakage 74 = .ok (.aload_n 0, 1) := by decide +kernel
theorem dX4_leakage_75 : decode cX4_leakage 75 = .ok (.getfield 35, 3) := by decide +kernel
theorem dX4_leakage_78 : decode cX4_leakage 78 = .ok (.getfield 192, 3) := by decide +kernel
theorem dX4_leakage_81 : decode cX4_leakage 81 = .ok (.iload_n 1, 1) := by decide +kernel
theorem dX4_leakage_82 : decode cX4_leakage 82 = .ok (.aaload, 1) := by decide +kernel
theorem dX4_leakage_83 : decode cX4_leakage 83 = .ok (.iload_n 2, 1) := by decide +kernel
theorem dX4_leakage_84 : decode cX4_leakage 84 = .ok (.invokevirtual 232, 3) := by decide +kernel
theorem dX4_leakage_87 : decode cX4_leakage 87 = .ok (.iload_n 3, 1) := by decide +kernel
theorem dX4_leakage_88 : decode cX4_leakage 88 = .ok (.isub, 1) := by decide +kernel
theorem dX4_leakage_89 : decode cX4_leakage 89 = .ok (.sipush 1000, 3) := by decide +kernel
theorem dX4_leakage_92 : decode cX4_leakage 92 = .ok (.imul, 1) := by decide +kernel
theorem dX4_leakage_93 : decode cX4_leakage 93 = .ok (.iload_n 3, 1) := by decide +kernel
theorem dX4_leakage_94 : decode cX4_leakage 94 = .ok (.invokestatic 212, 3) := by decide +kernel
theorem dX4_leakage_97 : decode cX4_leakage 97 = .ok (.ireturn, 1) := by decide +kernel
theorem dX4_cardsOf_0 : decode cX4_cardsOf 0 = .ok (.iload_n 1, 1) := by decide +kernel
theorem dX4_cardsOf_1 : decode cX4_cardsOf 1 = .ok (.invokestatic 58, 3) := by decide +kernel
theorem dX4_cardsOf_4 : decode cX4_cardsOf 4 = .ok (.ifCond .eq 11, 3) := by decide +kernel
theorem dX4_cardsOf_7 : decode cX4_cardsOf 7 = .ok (.aload_n 0, 1) := by decide +kernel
theorem dX4_cardsOf_8 : decode cX4_cardsOf 8 = .ok (.iload_n 1, 1) := by decide +kernel
theorem dX4_cardsOf_9 : decode cX4_cardsOf 9 = .ok (.invokevirtual 237, 3) := by decide +kernel
theorem dX4_cardsOf_12 : decode cX4_cardsOf 12 = .ok (.goto 5, 3) := by decide +kernel
theorem dX4_cardsOf_15 : decode cX4_cardsOf 15 = .ok (.ldc 51, 2) := by decide +kernel
theorem dX4_cardsOf_17 : decode cX4_cardsOf 17 = .ok (.ireturn, 1) := by decide +kernel
theorem dX4_meanArea_0 : decode cX4_meanArea 0 = .ok (.iload_n 1, 1) := by decide +kernel
theorem dX4_meanArea_1 : decode cX4_meanArea 1 = .ok (.invokestatic 58, 3) := by decide +kernel
theorem dX4_meanArea_4 : decode cX4_meanArea 4 = .ok (.ifCond .ne 6, 3) := by decide +kernel
theorem dX4_meanArea_7 : decode cX4_meanArea 7 = .ok (.ldc 51, 2) := by decide +kernel
theorem dX4_meanArea_9 : decode cX4_meanArea 9 = .ok (.ireturn, 1) := by decide +kernel
theorem dX4_meanArea_10 : decode cX4_meanArea 10 = .ok (.aload_n 0, 1) := by decide +kernel
theorem dX4_meanArea_11 : decode cX4_meanArea 11 = .ok (.iload_n 1, 1) := by decide +kernel
theorem dX4_meanArea_12 : decode cX4_meanArea 12 = .ok (.invokevirtual 237, 3) := by decide +kernel
theorem dX4_meanArea_15 : decode cX4_meanArea 15 = .ok (.ifCond .ne 6, 3) := by decide +kernel
theorem dX4_meanArea_18 : decode cX4_meanArea 18 = .ok (.ldc 236, 2) := by decide +kernel
theorem dX4_meanArea_20 : decode cX4_meanArea 20 = .ok (.ireturn, 1) := by decide +kernel
theorem dX4_meanArea_21 : decode cX4_meanArea 21 = .ok (.aload_n 0, 1) := by decide +kernel
theorem dX4_meanArea_22 : decode cX4_meanArea 22 = .ok (.iload_n 1, 1) := by decide +kernel
theorem dX4_meanArea_23 : decode cX4_meanArea 23 = .ok (.iconst 0, 1) := by decide +kernel
theorem dX4_meanArea_24 : decode cX4_meanArea 24 = .ok (.invokevirtual 240, 3) := by decide +kernel
theorem dX4_meanArea_27 : decode cX4_meanArea 27 = .ok (.aload_n 0, 1) := by decide +kernel
theorem dX4_meanArea_28 : decode cX4_meanArea 28 = .ok (.iload_n 1, 1) := by decide +kernel
theorem dX4_meanArea_29 : decode cX4_meanArea 29 = .ok (.iconst 1, 1) := by decide +kernel
theorem dX4_meanArea_30 : decode cX4_meanArea 30 = .ok (.invokevirtual 240, 3) := by decide +kernel
theorem dX4_meanArea_33 : decode cX4_meanArea 33 = .ok (.aload_n 0, 1) := by decide +kernel
theorem dX4_meanArea_34 : decode cX4_meanArea 34 = .ok (.getfield 10, 3) := by decide +kernel
theorem dX4_meanArea_37 : decode cX4_meanArea 37 = .ok (.invokevirtual 199, 3) := by decide +kernel
theorem dX4_meanArea_40 : decode cX4_meanArea 40 = .ok (.ireturn, 1) := by decide +kernel
theorem dX4_meanPower_0 : decode cX4_meanPower 0 = .ok (.iload_n 1, 1) := by decide +kernel
theorem dX4_meanPower_1 : decode cX4_meanPower 1 = .ok (.invokestatic 58, 3) := by decide +kernel
theorem dX4_meanPower_4 : decode cX4_meanPower 4 = .ok (.ifCond .ne 7, 3) := by decide +kernel
theorem dX4_meanPower_7 : decode cX4_meanPower 7 = .ok (.ldc2_w 220, 3) := by decide +kernel
theorem dX4_meanPower_10 : decode cX4_meanPower 10 = .ok (.lreturn, 1) := by decide +kernel
theorem dX4_meanPower_11 : decode cX4_meanPower 11 = .ok (.aload_n 0, 1) := by decide +kernel
theorem dX4_meanPower_12 : decode cX4_meanPower 12 = .ok (.iload_n 1, 1) := by decide +kernel
theorem dX4_meanPower_13 : decode cX4_meanPower 13 = .ok (.invokevirtual 237, 3) := by decide +kernel
theorem dX4_meanPower_16 : decode cX4_meanPower 16 = .ok (.ifCond .ne 7, 3) := by decide +kernel
theorem dX4_meanPower_19 : decode cX4_meanPower 19 = .ok (.ldc2_w 243, 3) := by decide +kernel
theorem dX4_meanPower_22 : decode cX4_meanPower 22 = .ok (.lreturn, 1) := by decide +kernel
theorem dX4_meanPower_23 : decode cX4_meanPower 23 = .ok (.aload_n 0, 1) := by decide +kernel
theorem dX4_meanPower_24 : decode cX4_meanPower 24 = .ok (.iload_n 1, 1) := by decide +kernel
theorem dX4_meanPower_25 : decode cX4_meanPower 25 = .ok (.invokevirtual 245, 3) := by decide +kernel
theorem dX4_meanPower_28 : decode cX4_meanPower 28 = .ok (.lreturn, 1) := by decide +kernel
theorem dX4_imbalance_0 : decode cX4_imbalance 0 = .ok (.aload_n 0, 1) := by decide +kernel
theorem dX4_imbalance_1 : decode cX4_imbalance 1 = .ok (.iconst 0, 1) := by decide +kernel
theorem dX4_imbalance_2 : decode cX4_imbalance 2 = .ok (.invokevirtual 237, 3) := by decide +kernel
theorem dX4_imbalance_5 : decode cX4_imbalance 5 = .ok (.ifCond .eq 11, 3) := by decide +kernel
theorem dX4_imbalance_8 : decode cX4_imbalance 8 = .ok (.aload_n 0, 1) := by decide +kernel
theorem dX4_imbalance_9 : decode cX4_imbalance 9 = .ok (.iconst 1, 1) := by decide +kernel
theorem dX4_imbalance_10 : decode cX4_imbalance 10 = .ok (.invokevirtual 237, 3) := by decide +kernel
theorem dX4_imbalance_13 : decode cX4_imbalance 13 = .ok (.ifCond .ne 6, 3) := by decide +kernel
theorem dX4_imbalance_16 : decode cX4_imbalance 16 = .ok (.ldc 236, 2) := by decide +kernel
theorem dX4_imbalance_18 : decode cX4_imbalance 18 = .ok (.ireturn, 1) := by decide +kernel
theorem dX4_imbalance_19 : decode cX4_imbalance 19 = .ok (.aload_n 0, 1) := by decide +kernel
theorem dX4_imbalance_20 : decode cX4_imbalance 20 = .ok (.iconst 0, 1) := by decide +kernel
theorem dX4_imbalance_21 : decode cX4_imbalance 21 = .ok (.invokevirtual 245, 3) := by decide +kernel
theorem dX4_imbalance_24 : decode cX4_imbalance 24 = .ok (.lstore_n 1, 1) := by decide +kernel
theorem dX4_imbalance_25 : decode cX4_imbalance 25 = .ok (.aload_n 0, 1) := by decide +kernel
theorem dX4_imbalance_26 : decode cX4_imbalance 26 = .ok (.iconst 1, 1) := by decide +kernel
theorem dX4_imbalance_27 : decode cX4_imbalance 27 = .ok (.invokevirtual 245, 3) := by decide +kernel
theorem dX4_imbalance_30 : decode cX4_imbalance 30 = .ok (.lstore_n 3, 1) := by decide +kernel
theorem dX4_imbalance_31 : decode cX4_imbalance 31 = .ok (.lload_n 1, 1) := by decide +kernel
theorem dX4_imbalance_32 : decode cX4_imbalance 32 = .ok (.lconst 0, 1) := by decide +kernel
theorem dX4_imbalance_33 : decode cX4_imbalance 33 = .ok (.lcmp, 1) := by decide +kernel
theorem dX4_imbalance_34 : decode cX4_imbalance 34 = .ok (.ifCond .lt 17, 3) := by decide +kernel
theorem dX4_imbalance_37 : decode cX4_imbalance 37 = .ok (.lload_n 3, 1) := by decide +kernel
theorem dX4_imbalance_38 : decode cX4_imbalance 38 = .ok (.lconst 0, 1) := by decide +kernel
theorem dX4_imbalance_39 : decode cX4_imbalance 39 = .ok (.lcmp, 1) := by decide +kernel
theorem dX4_imbalance_40 : decode cX4_imbalance 40 = .ok (.ifCond .lt 11, 3) := by decide +kernel
theorem dX4_imbalance_43 : decode cX4_imbalance 43 = .ok (.lload_n 1, 1) := by decide +kernel
theorem dX4_imbalance_44 : decode cX4_imbalance 44 = .ok (.lload_n 3, 1) := by decide +kernel
theorem dX4_imbalance_45 : decode cX4_imbalance 45 = .ok (.ladd, 1) := by decide +kernel
theorem dX4_imbalance_46 : decode cX4_imbalance 46 = .ok (.lconst 0, 1) := by decide +kernel
theorem dX4_imbalance_47 : decode cX4_imbalance 47 = .ok (.lcmp, 1) := by decide +kernel
theorem dX4_imbalance_48 : decode cX4_imbalance 48 = .ok (.ifCond .ne 6, 3) := by decide +kernel
theorem dX4_imbalance_51 : decode cX4_imbalance 51 = .ok (.ldc 236, 2) := by decide +kernel
theorem dX4_imbalance_53 : decode cX4_imbalance 53 = .ok (.ireturn, 1) := by decide +kernel
theorem dX4_imbalance_54 : decode cX4_imbalance 54 = .ok (.lload_n 1, 1) := by decide +kernel
theorem dX4_imbalance_55 : decode cX4_imbalance 55 = .ok (.lload_n 3, 1) := by decide +kernel
theorem dX4_imbalance_56 : decode cX4_imbalance 56 = .ok (.lsub, 1) := by decide +kernel
theorem dX4_imbalance_57 : decode cX4_imbalance 57 = .ok (.invokestatic 249, 3) := by decide +kernel
theorem dX4_imbalance_60 : decode cX4_imbalance 60 = .ok (.ldc2_w 255, 3) := by decide +kernel
theorem dX4_imbalance_63 : decode cX4_imbalance 63 = .ok (.lmul, 1) := by decide +kernel
theorem dX4_imbalance_64 : decode cX4_imbalance 64 = .ok (.lload_n 1, 1) := by decide +kernel
theorem dX4_imbalance_65 : decode cX4_imbalance 65 = .ok (.lload_n 3, 1) := by decide +kernel
theorem dX4_imbalance_66 : decode cX4_imbalance 66 = .ok (.ladd, 1) := by decide +kernel
theorem dX4_imbalance_67 : decode cX4_imbalance 67 = .ok (.invokestatic 257, 3) := by decide +kernel
theorem dX4_imbalance_70 : decode cX4_imbalance 70 = .ok (.l2i, 1) := by decide +kernel
theorem dX4_imbalance_71 : decode cX4_imbalance 71 = .ok (.ireturn, 1) := by decide +kernel
theorem dX4_removeOutliers_0 : decode cX4_removeOutliers 0 = .ok (.iload_n 1, 1) := by decide +kernel
theorem dX4_removeOutliers_1 : decode cX4_removeOutliers 1 = .ok (.invokestatic 58, 3) := by decide +kernel
theorem dX4_removeOutliers_4 : decode cX4_removeOutliers 4 = .ok (.ifCond .eq 13, 3) := by decide +kernel
theorem dX4_removeOutliers_7 : decode cX4_removeOutliers 7 = .ok (.iload_n 2, 1) := by decide +kernel
theorem dX4_removeOutliers_8 : decode cX4_removeOutliers 8 = .ok (.iconst 0, 1) := by decide +kernel
theorem dX4_removeOutliers_9 : decode cX4_removeOutliers 9 = .ok (.bipush 100, 2) := by decide +kernel
theorem dX4_removeOutliers_11 : decode cX4_removeOutliers 11 = .ok (.invokestatic 47, 3) := by decide +kernel
theorem dX4_removeOutliers_14 : decode cX4_removeOutliers 14 = .ok (.ifCond .ne 6, 3) := by decide +kernel
theorem dX4_removeOutliers_17 : decode cX4_removeOutliers 17 = .ok (.ldc 51, 2) := by decide +kernel
theorem dX4_removeOutliers_19 : decode cX4_removeOutliers 19 = .ok (.ireturn, 1) := by decide +kernel
theorem dX4_removeOutliers_20 : decode cX4_removeOutliers 20 = .ok (.aload_n 0, 1) := by decide +kernel
theorem dX4_removeOutliers_21 : decode cX4_removeOutliers 21 = .ok (.iload_n 1, 1) := by decide +kernel
theorem dX4_removeOutliers_22 : decode cX4_removeOutliers 22 = .ok (.invokevirtual 237, 3) := by decide +kernel
theorem dX4_removeOutliers_25 : decode cX4_removeOutliers 25 = .ok (.ifCond .ne 6, 3) := by decide +kernel
theorem dX4_removeOutliers_28 : decode cX4_removeOutliers 28 = .ok (.ldc 136, 2) := by decide +kernel
theorem dX4_removeOutliers_30 : decode cX4_removeOutliers 30 = .ok (.ireturn, 1) := by decide +kernel
theorem dX4_removeOutliers_31 : decode cX4_removeOutliers 31 = .ok (.aload_n 0, 1) := by decide +kernel
theorem dX4_removeOutliers_32 : decode cX4_removeOutliers 32 = .ok (.invokevirtual 52, 3) := by decide +kernel
theorem dX4_removeOutliers_35 : decode cX4_removeOutliers 35 = .ok (.aload_n 0, 1) := by decide +kernel
theorem dX4_removeOutliers_36 : decode cX4_removeOutliers 36 = .ok (.iload_n 1, 1) := by decide +kernel
theorem dX4_removeOutliers_37 : decode cX4_removeOutliers 37 = .ok (.invokevirtual 261, 3) := by decide +kernel
theorem dX4_removeOutliers_40 : decode cX4_removeOutliers 40 = .ok (.istore_n 3, 1) := by decide +kernel
theorem dX4_removeOutliers_41 : decode cX4_removeOutliers 41 = .ok (.iconst 0, 1) := by decide +kernel
theorem dX4_removeOutliers_42 : decode cX4_removeOutliers 42 = .ok (.istore 4, 2) := by decide +kernel
theorem dX4_removeOutliers_44 : decode cX4_removeOutliers 44 = .ok (.aload_n 0, 1) := by decide +kernel
theorem dX4_removeOutliers_45 : decode cX4_removeOutliers 45 = .ok (.getfield 35, 3) := by decide +kernel
theorem dX4_removeOutliers_48 : decode cX4_removeOutliers 48 = .ok (.getfield 151, 3) := by decide +kernel
theorem dX4_removeOutliers_51 : decode cX4_removeOutliers 51 = .ok (.iconst 1, 1) := by decide +kernel
theorem dX4_removeOutliers_52 : decode cX4_removeOutliers 52 = .ok (.isub, 1) := by decide +kernel
theorem dX4_removeOutliers_53 : decode cX4_removeOutliers 53 = .ok (.istore 5, 2) := by decide +kernel
theorem dX4_removeOutliers_55 : decode cX4_removeOutliers 55 = .ok (.iload 5, 2) := by decide +kernel
theorem dX4_removeOutliers_57 : decode cX4_removeOutliers 57 = .ok (.ifCond .lt 56, 3) := by decide +kernel
theorem dX4_removeOutliers_60 : decode cX4_removeOutliers 60 = .ok (.aload_n 0, 1) := by decide +kernel
theorem dX4_removeOutliers_61 : decode cX4_removeOutliers 61 = .ok (.getfield 35, 3) := by decide +kernel
theorem dX4_removeOutliers_64 : decode cX4_removeOutliers 64 = .ok (.getfield 192, 3) := by decide +kernel
theorem dX4_removeOutliers_67 : decode cX4_removeOutliers 67 = .ok (.iload 5, 2) := by decide +kernel
theorem dX4_removeOutliers_69 : decode cX4_removeOutliers 69 = .ok (.aaload, 1) := by decide +kernel
theorem dX4_removeOutliers_70 : decode cX4_removeOutliers 70 = .ok (.getfield 158, 3) := by decide +kernel
theorem dX4_removeOutliers_73 : decode cX4_removeOutliers 73 = .ok (.iload_n 1, 1) := by decide +kernel
theorem dX4_removeOutliers_74 : decode cX4_removeOutliers 74 = .ok (.if_icmp .ne 33, 3) := by decide +kernel
theorem dX4_removeOutliers_77 : decode cX4_removeOutliers 77 = .ok (.aload_n 0, 1) := by decide +kernel
theorem dX4_removeOutliers_78 : decode cX4_removeOutliers 78 = .ok (.getfield 35, 3) := by decide +kernel
theorem dX4_removeOutliers_81 : decode cX4_removeOutliers 81 = .ok (.getfield 192, 3) := by decide +kernel
theorem dX4_removeOutliers_84 : decode cX4_removeOutliers 84 = .ok (.iload 5, 2) := by decide +kernel
theorem dX4_removeOutliers_86 : decode cX4_removeOutliers 86 = .ok (.aaload, 1) := by decide +kernel
theorem dX4_removeOutliers_87 : decode cX4_removeOutliers 87 = .ok (.iload_n 3, 1) := by decide +kernel
theorem dX4_removeOutliers_88 : decode cX4_removeOutliers 88 = .ok (.iload_n 2, 1) := by decide +kernel
theorem dX4_removeOutliers_89 : decode cX4_removeOutliers 89 = .ok (.invokestatic 264, 3) := by decide +kernel
theorem dX4_removeOutliers_92 : decode cX4_removeOutliers 92 = .ok (.ifCond .eq 15, 3) := by decide +kernel
theorem dX4_removeOutliers_95 : decode cX4_removeOutliers 95 = .ok (.aload_n 0, 1) := by decide +kernel
theorem dX4_removeOutliers_96 : decode cX4_removeOutliers 96 = .ok (.getfield 35, 3) := by decide +kernel
theorem dX4_removeOutliers_99 : decode cX4_removeOutliers 99 = .ok (.iload 5, 2) := by decide +kernel
theorem dX4_removeOutliers_101 : decode cX4_removeOutliers 101 = .ok (.invokevirtual 188, 3) := by decide +kernel
theorem dX4_removeOutliers_104 : decode cX4_removeOutliers 104 = .ok (.iinc 4 1, 3) := by decide +kernel
theorem dX4_removeOutliers_107 : decode cX4_removeOutliers 107 = .ok (.iinc 5 (-1), 3) := by decide +kernel
theorem dX4_removeOutliers_110 : decode cX4_removeOutliers 110 = .ok (.goto (-55), 3) := by decide +kernel
theorem dX4_removeOutliers_113 : decode cX4_removeOutliers 113 = .ok (.iload 4, 2) := by decide +kernel
theorem dX4_removeOutliers_115 : decode cX4_removeOutliers 115 = .ok (.ireturn, 1) := by decide +kernel
theorem dX4_idealArea_0 : decode cX4_idealArea 0 = .ok (.iload_n 1, 1) := by decide +kernel
theorem dX4_idealArea_1 : decode cX4_idealArea 1 = .ok (.invokestatic 58, 3) := by decide +kernel
theorem dX4_idealArea_4 : decode cX4_idealArea 4 = .ok (.ifCond .ne 6, 3) := by decide +kernel
theorem dX4_idealArea_7 : decode cX4_idealArea 7 = .ok (.ldc 51, 2) := by decide +kernel
theorem dX4_idealArea_9 : decode cX4_idealArea 9 = .ok (.ireturn, 1) := by decide +kernel
theorem dX4_idealArea_10 : decode cX4_idealArea 10 = .ok (.aload_n 0, 1) := by decide +kernel
theorem dX4_idealArea_11 : decode cX4_idealArea 11 = .ok (.iload_n 1, 1) := by decide +kernel
theorem dX4_idealArea_12 : decode cX4_idealArea 12 = .ok (.aload_n 0, 1) := by decide +kernel
theorem dX4_idealArea_13 : decode cX4_idealArea 13 = .ok (.getfield 35, 3) := by decide +kernel
theorem dX4_idealArea_16 : decode cX4_idealArea 16 = .ok (.iload_n 1, 1) := by decide +kernel
theorem dX4_idealArea_17 : decode cX4_idealArea 17 = .ok (.invokevirtual 91, 3) := by decide +kernel
theorem dX4_idealArea_20 : decode cX4_idealArea 20 = .ok (.getfield 98, 3) := by decide +kernel
theorem dX4_idealArea_23 : decode cX4_idealArea 23 = .ok (.invokevirtual 268, 3) := by decide +kernel
theorem dX4_idealArea_26 : decode cX4_idealArea 26 = .ok (.ireturn, 1) := by decide +kernel
theorem dX4_balancingCutOff_0 : decode cX4_balancingCutOff 0 = .ok (.aload_n 0, 1) := by decide +kernel
theorem dX4_balancingCutOff_1 : decode cX4_balancingCutOff 1 = .ok (.aload_n 0, 1) := by decide +kernel
theorem dX4_balancingCutOff_2 : decode cX4_balancingCutOff 2 = .ok (.iconst 0, 1) := by decide +kernel
theorem dX4_balancingCutOff_3 : decode cX4_balancingCutOff 3 = .ok (.aload_n 0, 1) := by decide +kernel
theorem dX4_balancingCutOff_4 : decode cX4_balancingCutOff 4 = .ok (.getfield 35, 3) := by decide +kernel
theorem dX4_balancingCutOff_7 : decode cX4_balancingCutOff 7 = .ok (.getfield 277, 3) := by decide +kernel
theorem dX4_balancingCutOff_10 : decode cX4_balancingCutOff 10 = .ok (.getfield 98, 3) := by decide +kernel
theorem dX4_balancingCutOff_13 : decode cX4_balancingCutOff 13 = .ok (.invokevirtual 268, 3) := by decide +kernel
theorem dX4_balancingCutOff_16 : decode cX4_balancingCutOff 16 = .ok (.iconst 0, 1) := by decide +kernel
theorem dX4_balancingCutOff_17 : decode cX4_balancingCutOff 17 = .ok (.bipush 60, 2) := by decide +kernel
theorem dX4_balancingCutOff_19 : decode cX4_balancingCutOff 19 = .ok (.invokevirtual 280, 3) := by decide +kernel
theorem dX4_balancingCutOff_22 : decode cX4_balancingCutOff 22 = .ok (.lstore_n 1, 1) := by decide +kernel
theorem dX4_balancingCutOff_23 : decode cX4_balancingCutOff 23 = .ok (.aload_n 0, 1) := by decide +kernel
theorem dX4_balancingCutOff_24 : decode cX4_balancingCutOff 24 = .ok (.iconst 1, 1) := by decide +kernel
theorem dX4_balancingCutOff_25 : decode cX4_balancingCutOff 25 = .ok (.lload_n 1, 1) := by decide +kernel
theorem dX4_balancingCutOff_26 : decode cX4_balancingCutOff 26 = .ok (.iconst 1, 1) := by decide +kernel
theorem dX4_balancingCutOff_27 : decode cX4_balancingCutOff 27 = .ok (.invokevirtual 273, 3) := by decide +kernel
theorem dX4_balancingCutOff_30 : decode cX4_balancingCutOff 30 = .ok (.ireturn, 1) := by decide +kernel
theorem dX4_historySize_0 : decode cX4_historySize 0 = .ok (.aload_n 0, 1) := by decide +kernel
theorem dX4_historySize_1 : decode cX4_historySize 1 = .ok (.getfield 43, 3) := by decide +kernel
theorem dX4_historySize_4 : decode cX4_historySize 4 = .ok (.ireturn, 1) := by decide +kernel
theorem dX4_undo_0 : decode cX4_undo 0 = .ok (.aload_n 0, 1) := by decide +kernel
theorem dX4_undo_1 : decode cX4_undo 1 = .ok (.getfield 43, 3) := by decide +kernel
theorem dX4_undo_4 : decode cX4_undo 4 = .ok (.ifCond .gt 6, 3) := by decide +kernel
theorem dX4_undo_7 : decode cX4_undo 7 = .ok (.ldc 136, 2) := by decide +kernel
theorem dX4_undo_9 : decode cX4_undo 9 = .ok (.ireturn, 1) := by decide +kernel
theorem dX4_undo_10 : decode cX4_undo 10 = .ok (.aload_n 0, 1) := by decide +kernel
theorem dX4_undo_11 : decode cX4_undo 11 = .ok (.dup, 1) := by decide +kernel
theorem dX4_undo_12 : decode cX4_undo 12 = .ok (.getfield 43, 3) := by decide +kernel
theorem dX4_undo_15 : decode cX4_undo 15 = .ok (.iconst 1, 1) := by decide +kernel
theorem dX4_undo_16 : decode cX4_undo 16 = .ok (.isub, 1) := by decide +kernel
theorem dX4_undo_17 : decode cX4_undo 17 = .ok (.putfield 43, 3) := by decide +kernel
theorem dX4_undo_20 : decode cX4_undo 20 = .ok (.aload_n 0, 1) := by decide +kernel
theorem dX4_undo_21 : decode cX4_undo 21 = .ok (.getfield 35, 3) := by decide +kernel
theorem dX4_undo_24 : decode cX4_undo 24 = .ok (.aload_n 0, 1) := by decide +kernel
theorem dX4_undo_25 : decode cX4_undo 25 = .ok (.getfield 39, 3) := by decide +kernel
theorem dX4_undo_28 : decode cX4_undo 28 = .ok (.aload_n 0, 1) := by decide +kernel
theorem dX4_undo_29 : decode cX4_undo 29 = .ok (.getfield 43, 3) := by decide +kernel
theorem dX4_undo_32 : decode cX4_undo 32 = .ok (.aaload, 1) := by decide +kernel
theorem dX4_undo_33 : decode cX4_undo 33 = .ok (.invokevirtual 284, 3) := by decide +kernel
theorem dX4_undo_36 : decode cX4_undo 36 = .ok (.aload_n 0, 1) := by decide +kernel
theorem dX4_undo_37 : decode cX4_undo 37 = .ok (.getfield 43, 3) := by decide +kernel
theorem dX4_undo_40 : decode cX4_undo 40 = .ok (.ireturn, 1) := by decide +kernel
theorem dX4_recordState_0 : decode cX4_recordState 0 = .ok (.aload_n 0, 1) := by decide +kernel
theorem dX4_recordState_1 : decode cX4_recordState 1 = .ok (.getfield 43, 3) := by decide +kernel
theorem dX4_recordState_4 : decode cX4_recordState 4 = .ok (.iconst 4, 1) := by decide +kernel
theorem dX4_recordState_5 : decode cX4_recordState 5 = .ok (.if_icmp .lt 7, 3) := by decide +kernel
theorem dX4_recordState_8 : decode cX4_recordState 8 = .ok (.aload_n 0, 1) := by decide +kernel
theorem dX4_recordState_9 : decode cX4_recordState 9 = .ok (.invokevirtual 288, 3) := by decide +kernel
theorem dX4_recordState_12 : decode cX4_recordState 12 = .ok (.aload_n 0, 1) := by decide +kernel
theorem dX4_recordState_13 : decode cX4_recordState 13 = .ok (.getfield 39, 3) := by decide +kernel
theorem dX4_recordState_16 : decode cX4_recordState 16 = .ok (.aload_n 0, 1) := by decide +kernel
theorem dX4_recordState_17 : decode cX4_recordState 17 = .ok (.getfield 43, 3) := by decide +kernel
theorem dX4_recordState_20 : decode cX4_recordState 20 = .ok (.aaload, 1) := by decide +kernel
theorem dX4_recordState_21 : decode cX4_recordState 21 = .ok (.aload_n 0, 1) := by decide +kernel
theorem dX4_recordState_22 : decode cX4_recordState 22 = .ok (.getfield 35, 3) := by decide +kernel
theorem dX4_recordState_25 : decode cX4_recordState 25 = .ok (.invokevirtual 284, 3) := by decide +kernel
theorem dX4_recordState_28 : decode cX4_recordState 28 = .ok (.aload_n 0, 1) := by decide +kernel
theorem dX4_recordState_29 : decode cX4_recordState 29 = .ok (.dup, 1) := by decide +kernel
theorem dX4_recordState_30 : decode cX4_recordState 30 = .ok (.getfield 43, 3) := by decide +kernel
theorem dX4_recordState_33 : decode cX4_recordState 33 = .ok (.iconst 1, 1) := by decide +kernel
theorem dX4_recordState_34 : decode cX4_recordState 34 = .ok (.iadd, 1) := by decide +kernel
theorem dX4_recordState_35 : decode cX4_recordState 35 = .ok (.putfield 43, 3) := by decide +kernel
theorem dX4_recordState_38 : decode cX4_recordState 38 = .ok (.return_, 1) := by decide +kernel
theorem dX4_dropOldestState_0 : decode cX4_dropOldestState 0 = .ok (.aload_n 0, 1) := by decide +kernel
theorem dX4_dropOldestState_1 : decode cX4_dropOldestState 1 = .ok (.getfield 39, 3) := by decide +kernel
theorem dX4_dropOldestState_4 : decode cX4_dropOldestState 4 = .ok (.iconst 0, 1) := by decide +kernel
theorem dX4_dropOldestState_5 : decode cX4_dropOldestState 5 = .ok (.aaload, 1) := by decide +kernel
theorem dX4_dropOldestState_6 : decode cX4_dropOldestState 6 = .ok (.astore_n 1, 1) := by decide +kernel
theorem dX4_dropOldestState_7 : decode cX4_dropOldestState 7 = .ok (.iconst 1, 1) := by decide +kernel
theorem dX4_dropOldestState_8 : decode cX4_dropOldestState 8 = .ok (.istore_n 2, 1) := by decide +kernel
theorem dX4_dropOldestState_9 : decode cX4_dropOldestState 9 = .ok (.iload_n 2, 1) := by decide +kernel
theorem dX4_dropOldestState_10 : decode cX4_dropOldestState 10 = .ok (.iconst 4, 1) := by decide +kernel
theorem dX4_dropOldestState_11 : decode cX4_dropOldestState 11 = .ok (.if_icmp .ge 23, 3) := by decide +kernel
theorem dX4_dropOldestState_14 : decode cX4_dropOldestState 14 = .ok (.aload_n 0, 1) := by decide +kernel
theorem dX4_dropOldestState_15 : decode cX4_dropOldestState 15 = .ok (.getfield 39, 3) := by decide +kernel
theorem dX4_dropOldestState_18 : decode cX4_dropOldestState 18 = .ok (.iload_n 2, 1) := by decide +kernel
theorem dX4_dropOldestState_19 : decode cX4_dropOldestState 19 = .ok (.iconst 1, 1) := by decide +kernel
theorem dX4_dropOldestState_20 : decode cX4_dropOldestState 20 = .ok (.isub, 1) := by decide +kernel
theorem dX4_dropOldestState_21 : decode cX4_dropOldestState 21 = .ok (.aload_n 0, 1) := by decide +kernel
theorem dX4_dropOldestState_22 : decode cX4_dropOldestState 22 = .ok (.getfield 39, 3) := by decide +kernel
theorem dX4_dropOldestState_25 : decode cX4_dropOldestState 25 = .ok (.iload_n 2, 1) := by decide +kernel
theorem dX4_dropOldestState_26 : decode cX4_dropOldestState 26 = .ok (.aaload, 1) := by decide +kernel
theorem dX4_dropOldestState_27 : decode cX4_dropOldestState 27 = .ok (.aastore, 1) := by decide +kernel
theorem dX4_dropOldestState_28 : decode cX4_dropOldestState 28 = .ok (.iinc 2 1, 3) := by decide +kernel
theorem dX4_dropOldestState_31 : decode cX4_dropOldestState 31 = .ok (.goto (-22), 3) := by decide +kernel
theorem dX4_dropOldestState_34 : decode cX4_dropOldestState 34 = .ok (.aload_n 0, 1) := by decide +kernel
theorem dX4_dropOldestState_35 : decode cX4_dropOldestState 35 = .ok (.getfield 39, 3) := by decide +kernel
theorem dX4_dropOldestState_38 : decode cX4_dropOldestState 38 = .ok (.iconst 3, 1) := by decide +kernel
theorem dX4_dropOldestState_39 : decode cX4_dropOldestState 39 = .ok (.aload_n 1, 1) := by decide +kernel
theorem dX4_dropOldestState_40 : decode cX4_dropOldestState 40 = .ok (.aastore, 1) := by decide +kernel
theorem dX4_dropOldestState_41 : decode cX4_dropOldestState 41 = .ok (.aload_n 0, 1) := by decide +kernel
theorem dX4_dropOldestState_42 : decode cX4_dropOldestState 42 = .ok (.iconst 3, 1) := by decide +kernel
theorem dX4_dropOldestState_43 : decode cX4_dropOldestState 43 = .ok (.putfield 43, 3) := by decide +kernel
theorem dX4_dropOldestState_46 : decode cX4_dropOldestState 46 = .ok (.return_, 1) := by decide +kernel
theorem dX4_addCard_0 : decode cX4_addCard 0 = .ok (.aload_n 0, 1) := by decide +kernel
theorem dX4_addCard_1 : decode cX4_addCard 1 = .ok (.getfield 35, 3) := by decide +kernel
theorem dX4_addCard_4 : decode cX4_addCard 4 = .ok (.getfield 151, 3) := by decide +kernel
theorem dX4_addCard_7 : decode cX4_addCard 7 = .ok (.istore_n 2, 1) := by decide +kernel
theorem dX4_addCard_8 : decode cX4_addCard 8 = .ok (.aload_n 0, 1) := by decide +kernel
theorem dX4_addCard_9 : decode cX4_addCard 9 = .ok (.getfield 35, 3) := by decide +kernel
theorem dX4_addCard_12 : decode cX4_addCard 12 = .ok (.getfield 192, 3) := by decide +kernel
theorem dX4_addCard_15 : decode cX4_addCard 15 = .ok (.iload_n 2, 1) := by decide +kernel
theorem dX4_addCard_16 : decode cX4_addCard 16 = .ok (.aload_n 1, 1) := by decide +kernel
theorem dX4_addCard_17 : decode cX4_addCard 17 = .ok (.aastore, 1) := by decide +kernel
theorem dX4_addCard_18 : decode cX4_addCard 18 = .ok (.aload_n 0, 1) := by decide +kernel
theorem dX4_addCard_19 : decode cX4_addCard 19 = .ok (.getfield 35, 3) := by decide +kernel
theorem dX4_addCard_22 : decode cX4_addCard 22 = .ok (.iload_n 2, 1) := by decide +kernel
theorem dX4_addCard_23 : decode cX4_addCard 23 = .ok (.iconst 1, 1) := by decide +kernel
theorem dX4_addCard_24 : decode cX4_addCard 24 = .ok (.iadd, 1) := by decide +kernel
theorem dX4_addCard_25 : decode cX4_addCard 25 = .ok (.putfield 151, 3) := by decide +kernel
theorem dX4_addCard_28 : decode cX4_addCard 28 = .ok (.iload_n 2, 1) := by decide +kernel
theorem dX4_addCard_29 : decode cX4_addCard 29 = .ok (.ireturn, 1) := by decide +kernel
theorem dX4_isCard_0 : decode cX4_isCard 0 = .ok (.iload_n 1, 1) := by decide +kernel
theorem dX4_isCard_1 : decode cX4_isCard 1 = .ok (.ifCond .lt 18, 3) := by decide +kernel
theorem dX4_isCard_4 : decode cX4_isCard 4 = .ok (.iload_n 1, 1) := by decide +kernel
theorem dX4_isCard_5 : decode cX4_isCard 5 = .ok (.aload_n 0, 1) := by decide +kernel
theorem dX4_isCard_6 : decode cX4_isCard 6 = .ok (.getfield 35, 3) := by decide +kernel
theorem dX4_isCard_9 : decode cX4_isCard 9 = .ok (.getfield 151, 3) := by decide +kernel
theorem dX4_isCard_12 : decode cX4_isCard 12 = .ok (.if_icmp .ge 7, 3) := by decide +kernel
theorem dX4_isCard_15 : decode cX4_isCard 15 = .ok (.iconst 1, 1) := by decide +kernel
theorem dX4_isCard_16 : decode cX4_isCard 16 = .ok (.goto 4, 3) := by decide +kernel
theorem dX4_isCard_19 : decode cX4_isCard 19 = .ok (.iconst 0, 1) := by decide +kernel
theorem dX4_isCard_20 : decode cX4_isCard 20 = .ok (.ireturn, 1) := by decide +kernel
theorem dX4_isEnd_0 : decode cX4_isEnd 0 = .ok (.iload_n 0, 1) := by decide +kernel
theorem dX4_isEnd_1 : decode cX4_isEnd 1 = .ok (.ifCond .eq 8, 3) := by decide +kernel
theorem dX4_isEnd_4 : decode cX4_isEnd 4 = .ok (.iload_n 0, 1) := by decide +kernel
theorem dX4_isEnd_5 : decode cX4_isEnd 5 = .ok (.iconst 1, 1) := by decide +kernel
theorem dX4_isEnd_6 : decode cX4_isEnd 6 = .ok (.if_icmp .ne 7, 3) := by decide +kernel
theorem dX4_isEnd_9 : decode cX4_isEnd 9 = .ok (.iconst 1, 1) := by decide +kernel
theorem dX4_isEnd_10 : decode cX4_isEnd 10 = .ok (.goto 4, 3) := by decide +kernel
theorem dX4_isEnd_13 : decode cX4_isEnd 13 = .ok (.iconst 0, 1) := by decide +kernel
theorem dX4_isEnd_14 : decode cX4_isEnd 14 = .ok (.ireturn, 1) := by decide +kernel
theorem dX4_isStroke_0 : decode cX4_isStroke 0 = .ok (.iload_n 0, 1) := by decide +kernel
theorem dX4_isStroke_1 : decode cX4_isStroke 1 = .ok (.ifCond .eq 8, 3) := by decide +kernel
theorem dX4_isStroke_4 : decode cX4_isStroke 4 = .ok (.iload_n 0, 1) := by decide +kernel
theorem dX4_isStroke_5 : decode cX4_isStroke 5 = .ok (.iconst 1, 1) := by decide +kernel
theorem dX4_isStroke_6 : decode cX4_isStroke 6 = .ok (.if_icmp .ne 7, 3) := by decide +kernel
theorem dX4_isStroke_9 : decode cX4_isStroke 9 = .ok (.iconst 1, 1) := by decide +kernel
theorem dX4_isStroke_10 : decode cX4_isStroke 10 = .ok (.goto 4, 3) := by decide +kernel
theorem dX4_isStroke_13 : decode cX4_isStroke 13 = .ok (.iconst 0, 1) := by decide +kernel
theorem dX4_isStroke_14 : decode cX4_isStroke 14 = .ok (.ireturn, 1) := by decide +kernel
theorem dX4_isEvent_0 : decode cX4_isEvent 0 = .ok (.iload_n 0, 1) := by decide +kernel
theorem dX4_isEvent_1 : decode cX4_isEvent 1 = .ok (.iconst 0, 1) := by decide +kernel
theorem dX4_isEvent_2 : decode cX4_isEvent 2 = .ok (.iconst 3, 1) := by decide +kernel
theorem dX4_isEvent_3 : decode cX4_isEvent 3 = .ok (.invokestatic 47, 3) := by decide +kernel
theorem dX4_isEvent_6 : decode cX4_isEvent 6 = .ok (.ireturn, 1) := by decide +kernel
theorem dX4_isStation_0 : decode cX4_isStation 0 = .ok (.iload_n 0, 1) := by decide +kernel
theorem dX4_isStation_1 : decode cX4_isStation 1 = .ok (.iconst 0, 1) := by decide +kernel
theorem dX4_isStation_2 : decode cX4_isStation 2 = .ok (.bipush 20, 2) := by decide +kernel
theorem dX4_isStation_4 : decode cX4_isStation 4 = .ok (.invokestatic 47, 3) := by decide +kernel
theorem dX4_isStation_7 : decode cX4_isStation 7 = .ok (.ireturn, 1) := by decide +kernel
theorem dX4_isSpeed_0 : decode cX4_isSpeed 0 = .ok (.iload_n 0, 1) := by decide +kernel
theorem dX4_isSpeed_1 : decode cX4_isSpeed 1 = .ok (.iconst 1, 1) := by decide +kernel
theorem dX4_isSpeed_2 : decode cX4_isSpeed 2 = .ok (.sipush 600, 3) := by decide +kernel
theorem dX4_isSpeed_5 : decode cX4_isSpeed 5 = .ok (.invokestatic 47, 3) := by decide +kernel
theorem dX4_isSpeed_8 : decode cX4_isSpeed 8 = .ok (.ireturn, 1) := by decide +kernel
theorem dX4_areValves_0 : decode cX4_areValves 0 = .ok (.iload_n 0, 1) := by decide +kernel
theorem dX4_areValves_1 : decode cX4_areValves 1 = .ok (.iconst 0, 1) := by decide +kernel
theorem dX4_areValves_2 : decode cX4_areValves 2 = .ok (.iconst 5, 1) := by decide +kernel
theorem dX4_areValves_3 : decode cX4_areValves 3 = .ok (.invokestatic 47, 3) := by decide +kernel
theorem dX4_areValves_6 : decode cX4_areValves 6 = .ok (.ifCond .eq 47, 3) := by decide +kernel
theorem dX4_areValves_9 : decode cX4_areValves 9 = .ok (.iload_n 1, 1) := by decide +kernel
theorem dX4_areValves_10 : decode cX4_areValves 10 = .ok (.iconst 1, 1) := by decide +kernel
theorem dX4_areValves_11 : decode cX4_areValves 11 = .ok (.bipush 18, 2) := by decide +kernel
theorem dX4_areValves_13 : decode cX4_areValves 13 = .ok (.invokestatic 47, 3) := by decide +kernel
theorem dX4_areValves_16 : decode cX4_areValves 16 = .ok (.ifCond .eq 37, 3) := by decide +kernel
theorem dX4_areValves_19 : decode cX4_areValves 19 = .ok (.iload_n 2, 1) := by decide +kernel
theorem dX4_areValves_20 : decode cX4_areValves 20 = .ok (.iconst 2, 1) := by decide +kernel
theorem dX4_areValves_21 : decode cX4_areValves 21 = .ok (.bipush 20, 2) := by decide +kernel
theorem dX4_areValves_23 : decode cX4_areValves 23 = .ok (.invokestatic 47, 3) := by decide +kernel
theorem dX4_areValves_26 : decode cX4_areValves 26 = .ok (.ifCond .eq 27, 3) := by decide +kernel
theorem dX4_areValves_29 : decode cX4_areValves 29 = .ok (.iload_n 3, 1) := by decide +kernel
theorem dX4_areValves_30 : decode cX4_areValves 30 = .ok (.iconst 0, 1) := by decide +kernel
theorem dX4_areValves_31 : decode cX4_areValves 31 = .ok (.bipush 19, 2) := by decide +kernel
theorem dX4_areValves_33 : decode cX4_areValves 33 = .ok (.invokestatic 47, 3) := by decide +kernel
theorem dX4_areValves_36 : decode cX4_areValves 36 = .ok (.ifCond .eq 17, 3) := by decide +kernel
theorem dX4_areValves_39 : decode cX4_areValves 39 = .ok (.iload_n 1, 1) := by decide +kernel
theorem dX4_areValves_40 : decode cX4_areValves 40 = .ok (.iload_n 0, 1) := by decide +kernel
theorem dX4_areValves_41 : decode cX4_areValves 41 = .ok (.if_icmp .le 12, 3) := by decide +kernel
theorem dX4_areValves_44 : decode cX4_areValves 44 = .ok (.iload_n 2, 1) := by decide +kernel
theorem dX4_areValves_45 : decode cX4_areValves 45 = .ok (.iload_n 1, 1) := by decide +kernel
theorem dX4_areValves_46 : decode cX4_areValves 46 = .ok (.if_icmp .le 7, 3) := by decide +kernel
theorem dX4_areValves_49 : decode cX4_areValves 49 = .ok (.iconst 1, 1) := by decide +kernel
theorem dX4_areValves_50 : decode cX4_areValves 50 = .ok (.goto 4, 3) := by decide +kernel
theorem dX4_areValves_53 : decode cX4_areValves 53 = .ok (.iconst 0, 1) := by decide +kernel
theorem dX4_areValves_54 : decode cX4_areValves 54 = .ok (.ireturn, 1) := by decide +kernel
theorem dX4_isWithin_0 : decode cX4_isWithin 0 = .ok (.iload_n 0, 1) := by decide +kernel
theorem dX4_isWithin_1 : decode cX4_isWithin 1 = .ok (.iload_n 1, 1) := by decide +kernel
theorem dX4_isWithin_2 : decode cX4_isWithin 2 = .ok (.if_icmp .lt 12, 3) := by decide +kernel
theorem dX4_isWithin_5 : decode cX4_isWithin 5 = .ok (.iload_n 0, 1) := by decide +kernel
theorem dX4_isWithin_6 : decode cX4_isWithin 6 = .ok (.iload_n 2, 1) := by decide +kernel
theorem dX4_isWithin_7 : decode cX4_isWithin 7 = .ok (.if_icmp .gt 7, 3) := by decide +kernel
theorem dX4_isWithin_10 : decode cX4_isWithin 10 = .ok (.iconst 1, 1) := by decide +kernel
theorem dX4_isWithin_11 : decode cX4_isWithin 11 = .ok (.goto 4, 3) := by decide +kernel
theorem dX4_isWithin_14 : decode cX4_isWithin 14 = .ok (.iconst 0, 1) := by decide +kernel
theorem dX4_isWithin_15 : decode cX4_isWithin 15 = .ok (.ireturn, 1) := by decide +kernel
theorem dX4_quotient_0 : decode cX4_quotient 0 = .ok (.iload_n 1, 1) := by decide +kernel
theorem dX4_quotient_1 : decode cX4_quotient 1 = .ok (.ifCond .ne 7, 3) := by decide +kernel
theorem dX4_quotient_4 : decode cX4_quotient 4 = .ok (.iconst 0, 1) := by decide +kernel
theorem dX4_quotient_5 : decode cX4_quotient 5 = .ok (.goto 8, 3) := by decide +kernel
theorem dX4_quotient_8 : decode cX4_quotient 8 = .ok (.iload_n 0, 1) := by decide +kernel
theorem dX4_quotient_9 : decode cX4_quotient 9 = .ok (.iload_n 1, 1) := by decide +kernel
theorem dX4_quotient_10 : decode cX4_quotient 10 = .ok (.invokestatic 291, 3) := by decide +kernel
theorem dX4_quotient_13 : decode cX4_quotient 13 = .ok (.ireturn, 1) := by decide +kernel
theorem dX4_longQuotient_0 : decode cX4_longQuotient 0 = .ok (.lload_n 2, 1) := by decide +kernel
theorem dX4_longQuotient_1 : decode cX4_longQuotient 1 = .ok (.lconst 0, 1) := by decide +kernel
theorem dX4_longQuotient_2 : decode cX4_longQuotient 2 = .ok (.lcmp, 1) := by decide +kernel
theorem dX4_longQuotient_3 : decode cX4_longQuotient 3 = .ok (.ifCond .ne 7, 3) := by decide +kernel
theorem dX4_longQuotient_6 : decode cX4_longQuotient 6 = .ok (.lconst 0, 1) := by decide +kernel
theorem dX4_longQuotient_7 : decode cX4_longQuotient 7 = .ok (.goto 8, 3) := by decide +kernel
theorem dX4_longQuotient_10 : decode cX4_longQuotient 10 = .ok (.lload_n 0, 1) := by decide +kernel
theorem dX4_longQuotient_11 : decode cX4_longQuotient 11 = .ok (.lload_n 2, 1) := by decide +kernel
theorem dX4_longQuotient_12 : decode cX4_longQuotient 12 = .ok (.invokestatic 294, 3) := by decide +kernel
theorem dX4_longQuotient_15 : decode cX4_longQuotient 15 = .ok (.lreturn, 1) := by decide +kernel
theorem dX4_countPoints_0 : decode cX4_countPoints 0 = .ok (.iconst 0, 1) := by decide +kernel
theorem dX4_countPoints_1 : decode cX4_countPoints 1 = .ok (.istore_n 1, 1) := by decide +kernel
theorem dX4_countPoints_2 : decode cX4_countPoints 2 = .ok (.iconst 0, 1) := by decide +kernel
theorem dX4_countPoints_3 : decode cX4_countPoints 3 = .ok (.istore_n 2, 1) := by decide +kernel
theorem dX4_countPoints_4 : decode cX4_countPoints 4 = .ok (.iload_n 2, 1) := by decide +kernel
theorem dX4_countPoints_5 : decode cX4_countPoints 5 = .ok (.bipush 21, 2) := by decide +kernel
theorem dX4_countPoints_7 : decode cX4_countPoints 7 = .ok (.if_icmp .ge 19, 3) := by decide +kernel
theorem dX4_countPoints_10 : decode cX4_countPoints 10 = .ok (.aload_n 0, 1) := by decide +kernel
theorem dX4_countPoints_11 : decode cX4_countPoints 11 = .ok (.iload_n 2, 1) := by decide +kernel
theorem dX4_countPoints_12 : decode cX4_countPoints 12 = .ok (.iaload, 1) := by decide +kernel
theorem dX4_countPoints_13 : decode cX4_countPoints 13 = .ok (.iconst (-1), 1) := by decide +kernel
theorem dX4_countPoints_14 : decode cX4_countPoints 14 = .ok (.if_icmp .eq 6, 3) := by decide +kernel
theorem dX4_countPoints_17 : decode cX4_countPoints 17 = .ok (.iinc 1 1, 3) := by decide +kernel
theorem dX4_countPoints_20 : decode cX4_countPoints 20 = .ok (.iinc 2 1, 3) := by decide +kernel
theorem dX4_countPoints_23 : decode cX4_countPoints 23 = .ok (.goto (-19), 3) := by decide +kernel
theorem dX4_countPoints_26 : decode cX4_countPoints 26 = .ok (.iload_n 1, 1) := by decide +kernel
theorem dX4_countPoints_27 : decode cX4_countPoints 27 = .ok (.ireturn, 1) := by decide +kernel
theorem dX4_drawThroughPoints_0 : decode cX4_drawThroughPoints 0 = .ok (.iconst 0, 1) := by decide +kernel
theorem dX4_drawThroughPoints_1 : decode cX4_drawThroughPoints 1 = .ok (.istore_n 2, 1) := by decide +kernel
theorem dX4_drawThroughPoints_2 : decode cX4_drawThroughPoints 2 = .ok (.iload_n 2, 1) := by decide +kernel
theorem dX4_drawThroughPoints_3 : decode cX4_drawThroughPoints 3 = .ok (.bipush 21, 2) := by decide +kernel
theorem dX4_drawThroughPoints_5 : decode cX4_drawThroughPoints 5 = .ok (.if_icmp .ge 106, 3) := by decide +kernel
theorem dX4_drawThroughPoints_8 : decode cX4_drawThroughPoints 8 = .ok (.aload_n 0, 1) := by decide +kernel
theorem dX4_drawThroughPoints_9 : decode cX4_drawThroughPoints 9 = .ok (.iload_n 2, 1) := by decide +kernel
theorem dX4_drawThroughPoints_10 : decode cX4_drawThroughPoints 10 = .ok (.invokestatic 296, 3) := by decide +kernel
theorem dX4_drawThroughPoints_13 : decode cX4_drawThroughPoints 13 = .ok (.istore_n 3, 1) := by decide +kernel
theorem dX4_drawThroughPoints_14 : decode cX4_drawThroughPoints 14 = .ok (.aload_n 0, 1) := by decide +kernel
theorem dX4_drawThroughPoints_15 : decode cX4_drawThroughPoints 15 = .ok (.iload_n 2, 1) := by decide +kernel
theorem dX4_drawThroughPoints_16 : decode cX4_drawThroughPoints 16 = .ok (.invokestatic 300, 3) := by decide +kernel
theorem dX4_drawThroughPoints_19 : decode cX4_drawThroughPoints 19 = .ok (.istore 4, 2) := by decide +kernel
theorem dX4_drawThroughPoints_21 : decode cX4_drawThroughPoints 21 = .ok (.iload_n 3, 1) := by decide +kernel
theorem dX4_drawThroughPoints_22 : decode cX4_drawThroughPoints 22 = .ok (.iconst (-1), 1) := by decide +kernel
theorem dX4_drawThroughPoints_23 : decode cX4_drawThroughPoints 23 = .ok (.if_icmp .ne 16, 3) := by decide +kernel
theorem dX4_drawThroughPoints_26 : decode cX4_drawThroughPoints 26 = .ok (.iload 4, 2) := by decide +kernel
theorem dX4_drawThroughPoints_28 : decode cX4_drawThroughPoints 28 = .ok (.iconst (-1), 1) := by decide +kernel
theorem dX4_drawThroughPoints_29 : decode cX4_drawThroughPoints 29 = .ok (.if_icmp .ne 10, 3) := by decide +kernel
theorem dX4_drawThroughPoints_32 : decode cX4_drawThroughPoints 32 = .ok (.aload_n 1, 1) := by decide +kernel
theorem dX4_drawThroughPoints_33 : decode cX4_drawThroughPoints 33 = .ok (.iload_n 2, 1) := by decide +kernel
theorem dX4_drawThroughPoints_34 : decode cX4_drawThroughPoints 34 = .ok (.iconst 0, 1) := by decide +kernel
theorem dX4_drawThroughPoints_35 : decode cX4_drawThroughPoints 35 = .ok (.iastore, 1) := by decide +kernel
theorem dX4_drawThroughPoints_36 : decode cX4_drawThroughPoints 36 = .ok (.goto 69, 3) := by decide +kernel
theorem dX4_drawThroughPoints_39 : decode cX4_drawThroughPoints 39 = .ok (.iload_n 3, 1) := by decide +kernel
theorem dX4_drawThroughPoints_40 : decode cX4_drawThroughPoints 40 = .ok (.iconst (-1), 1) := by decide +kernel
theorem dX4_drawThroughPoints_41 : decode cX4_drawThroughPoints 41 = .ok (.if_icmp .ne 13, 3) := by decide +kernel
theorem dX4_drawThroughPoints_44 : decode cX4_drawThroughPoints 44 = .ok (.aload_n 1, 1) := by decide +kernel
theorem dX4_drawThroughPoints_45 : decode cX4_drawThroughPoints 45 = .ok (.iload_n 2, 1) := by decide +kernel
theorem dX4_drawThroughPoints_46 : decode cX4_drawThroughPoints 46 = .ok (.aload_n 0, 1) := by decide +kernel
theorem dX4_drawThroughPoints_47 : decode cX4_drawThroughPoints 47 = .ok (.iload 4, 2) := by decide +kernel
theorem dX4_drawThroughPoints_49 : decode cX4_drawThroughPoints 49 = .ok (.iaload, 1) := by decide +kernel
theorem dX4_drawThroughPoints_50 : decode cX4_drawThroughPoints 50 = .ok (.iastore, 1) := by decide +kernel
theorem dX4_drawThroughPoints_51 : decode cX4_drawThroughPoints 51 = .ok (.goto 54, 3) := by decide +kernel
theorem dX4_drawThroughPoints_54 : decode cX4_drawThroughPoints 54 = .ok (.iload 4, 2) := by decide +kernel
theorem dX4_drawThroughPoints_56 : decode cX4_drawThroughPoints 56 = .ok (.iconst (-1), 1) := by decide +kernel
theorem dX4_drawThroughPoints_57 : decode cX4_drawThroughPoints 57 = .ok (.if_icmp .eq 9, 3) := by decide +kernel
theorem dX4_drawThroughPoints_60 : decode cX4_drawThroughPoints 60 = .ok (.iload 4, 2) := by decide +kernel
theorem dX4_drawThroughPoints_62 : decode cX4_drawThroughPoints 62 = .ok (.iload_n 3, 1) := by decide +kernel
theorem dX4_drawThroughPoints_63 : decode cX4_drawThroughPoints 63 = .ok (.if_icmp .ne 12, 3) := by decide +kernel
theorem dX4_drawThroughPoints_66 : decode cX4_drawThroughPoints 66 = .ok (.aload_n 1, 1) := by decide +kernel
theorem dX4_drawThroughPoints_67 : decode cX4_drawThroughPoints 67 = .ok (.iload_n 2, 1) := by decide +kernel
theorem dX4_drawThroughPoints_68 : decode cX4_drawThroughPoints 68 = .ok (.aload_n 0, 1) := by decide +kernel
theorem dX4_drawThroughPoints_69 : decode cX4_drawThroughPoints 69 = .ok (.iload_n 3, 1) := by decide +kernel
theorem dX4_drawThroughPoints_70 : decode cX4_drawThroughPoints 70 = .ok (.iaload, 1) := by decide +kernel
theorem dX4_drawThroughPoints_71 : decode cX4_drawThroughPoints 71 = .ok (.iastore, 1) := by decide +kernel
theorem dX4_drawThroughPoints_72 : decode cX4_drawThroughPoints 72 = .ok (.goto 33, 3) := by decide +kernel
theorem dX4_drawThroughPoints_75 : decode cX4_drawThroughPoints 75 = .ok (.aload_n 0, 1) := by decide +kernel
theorem dX4_drawThroughPoints_76 : decode cX4_drawThroughPoints 76 = .ok (.iload 4, 2) := by decide +kernel
theorem dX4_drawThroughPoints_78 : decode cX4_drawThroughPoints 78 = .ok (.iaload, 1) := by decide +kernel
theorem dX4_drawThroughPoints_79 : decode cX4_drawThroughPoints 79 = .ok (.aload_n 0, 1) := by decide +kernel
theorem dX4_drawThroughPoints_80 : decode cX4_drawThroughPoints 80 = .ok (.iload_n 3, 1) := by decide +kernel
theorem dX4_drawThroughPoints_81 : decode cX4_drawThroughPoints 81 = .ok (.iaload, 1) := by decide +kernel
theorem dX4_drawThroughPoints_82 : decode cX4_drawThroughPoints 82 = .ok (.isub, 1) := by decide +kernel
theorem dX4_drawThroughPoints_83 : decode cX4_drawThroughPoints 83 = .ok (.iload_n 2, 1) := by decide +kernel
theorem dX4_drawThroughPoints_84 : decode cX4_drawThroughPoints 84 = .ok (.iload_n 3, 1) := by decide +kernel
theorem dX4_drawThroughPoints_85 : decode cX4_drawThroughPoints 85 = .ok (.isub, 1) := by decide +kernel
theorem dX4_drawThroughPoints_86 : decode cX4_drawThroughPoints 86 = .ok (.imul, 1) := by decide +kernel
theorem dX4_drawThroughPoints_87 : decode cX4_drawThroughPoints 87 = .ok (.istore 5, 2) := by decide +kernel
theorem dX4_drawThroughPoints_89 : decode cX4_drawThroughPoints 89 = .ok (.aload_n 1, 1) := by decide +kernel
theorem dX4_drawThroughPoints_90 : decode cX4_drawThroughPoints 90 = .ok (.iload_n 2, 1) := by decide +kernel
theorem dX4_drawThroughPoints_91 : decode cX4_drawThroughPoints 91 = .ok (.aload_n 0, 1) := by decide +kernel
theorem dX4_drawThroughPoints_92 : decode cX4_drawThroughPoints 92 = .ok (.iload_n 3, 1) := by decide +kernel
theorem dX4_drawThroughPoints_93 : decode cX4_drawThroughPoints 93 = .ok (.iaload, 1) := by decide +kernel
theorem dX4_drawThroughPoints_94 : decode cX4_drawThroughPoints 94 = .ok (.iload 5, 2) := by decide +kernel
theorem dX4_drawThroughPoints_96 : decode cX4_drawThroughPoints 96 = .ok (.iload 4, 2) := by decide +kernel
theorem dX4_drawThroughPoints_98 : decode cX4_drawThroughPoints 98 = .ok (.iload_n 3, 1) := by decide +kernel
theorem dX4_drawThroughPoints_99 : decode cX4_drawThroughPoints 99 = .ok (.isub, 1) := by decide +kernel
theorem dX4_drawThroughPoints_100 : decode cX4_drawThroughPoints 100 = .ok (.invokestatic 212, 3) := by decide +kernel
theorem dX4_drawThroughPoints_103 : decode cX4_drawThroughPoints 103 = .ok (.iadd, 1) := by decide +kernel
theorem dX4_drawThroughPoints_104 : decode cX4_drawThroughPoints 104 = .ok (.iastore, 1) := by decide +kernel
theorem dX4_drawThroughPoints_105 : decode cX4_drawThroughPoints 105 = .ok (.iinc 2 1, 3) := by decide +kernel
theorem dX4_drawThroughPoints_108 : decode cX4_drawThroughPoints 108 = .ok (.goto (-106), 3) := by decide +kernel
theorem dX4_drawThroughPoints_111 : decode cX4_drawThroughPoints 111 = .ok (.return_, 1) := by decide +kernel
theorem dX4_pointUpTo_0 : decode cX4_pointUpTo 0 = .ok (.iload_n 1, 1) := by decide +kernel
theorem dX4_pointUpTo_1 : decode cX4_pointUpTo 1 = .ok (.istore_n 2, 1) := by decide +kernel
theorem dX4_pointUpTo_2 : decode cX4_pointUpTo 2 = .ok (.iload_n 2, 1) := by decide +kernel
theorem dX4_pointUpTo_3 : decode cX4_pointUpTo 3 = .ok (.ifCond .lt 18, 3) := by decide +kernel
theorem dX4_pointUpTo_6 : decode cX4_pointUpTo 6 = .ok (.aload_n 0, 1) := by decide +kernel
theorem dX4_pointUpTo_7 : decode cX4_pointUpTo 7 = .ok (.iload_n 2, 1) := by decide +kernel
theorem dX4_pointUpTo_8 : decode cX4_pointUpTo 8 = .ok (.iaload, 1) := by decide +kernel
theorem dX4_pointUpTo_9 : decode cX4_pointUpTo 9 = .ok (.iconst (-1), 1) := by decide +kernel
theorem dX4_pointUpTo_10 : decode cX4_pointUpTo 10 = .ok (.if_icmp .eq 5, 3) := by decide +kernel
theorem dX4_pointUpTo_13 : decode cX4_pointUpTo 13 = .ok (.iload_n 2, 1) := by decide +kernel
theorem dX4_pointUpTo_14 : decode cX4_pointUpTo 14 = .ok (.ireturn, 1) := by decide +kernel
theorem dX4_pointUpTo_15 : decode cX4_pointUpTo 15 = .ok (.iinc 2 (-1), 3) := by decide +kernel
theorem dX4_pointUpTo_18 : decode cX4_pointUpTo 18 = .ok (.goto (-16), 3) := by decide +kernel
theorem dX4_pointUpTo_21 : decode cX4_pointUpTo 21 = .ok (.iconst (-1), 1) := by decide +kernel
theorem dX4_pointUpTo_22 : decode cX4_pointUpTo 22 = .ok (.ireturn, 1) := by decide +kernel
theorem dX4_pointFrom_0 : decode cX4_pointFrom 0 = .ok (.iload_n 1, 1) := by decide +kernel
theorem dX4_pointFrom_1 : decode cX4_pointFrom 1 = .ok (.istore_n 2, 1) := by decide +kernel
theorem dX4_pointFrom_2 : decode cX4_pointFrom 2 = .ok (.iload_n 2, 1) := by decide +kernel
theorem dX4_pointFrom_3 : decode cX4_pointFrom 3 = .ok (.bipush 21, 2) := by decide +kernel
theorem dX4_pointFrom_5 : decode cX4_pointFrom 5 = .ok (.if_icmp .ge 18, 3) := by decide +kernel
theorem dX4_pointFrom_8 : decode cX4_pointFrom 8 = .ok (.aload_n 0, 1) := by decide +kernel
theorem dX4_pointFrom_9 : decode cX4_pointFrom 9 = .ok (.iload_n 2, 1) := by decide +kernel
theorem dX4_pointFrom_10 : decode cX4_pointFrom 10 = .ok (.iaload, 1) := by decide +kernel
theorem dX4_pointFrom_11 : decode cX4_pointFrom 11 = .ok (.iconst (-1), 1) := by decide +kernel
theorem dX4_pointFrom_12 : decode cX4_pointFrom 12 = .ok (.if_icmp .eq 5, 3) := by decide +kernel
theorem dX4_pointFrom_15 : decode cX4_pointFrom 15 = .ok (.iload_n 2, 1) := by decide +kernel
theorem dX4_pointFrom_16 : decode cX4_pointFrom 16 = .ok (.ireturn, 1) := by decide +kernel
theorem dX4_pointFrom_17 : decode cX4_pointFrom 17 = .ok (.iinc 2 1, 3) := by decide +kernel
theorem dX4_pointFrom_20 : decode cX4_pointFrom 20 = .ok (.goto (-18), 3) := by decide +kernel
theorem dX4_pointFrom_23 : decode cX4_pointFrom 23 = .ok (.iconst (-1), 1) := by decide +kernel
theorem dX4_pointFrom_24 : decode cX4_pointFrom 24 = .ok (.ireturn, 1) := by decide +kernel
theorem dX4_drawIdealCard_0 : decode cX4_drawIdealCard 0 = .ok (.aload_n 0, 1) := by decide +kernel
theorem dX4_drawIdealCard_1 : decode cX4_drawIdealCard 1 = .ok (.aload_n 1, 1) := by decide +kernel
theorem dX4_drawIdealCard_2 : decode cX4_drawIdealCard 2 = .ok (.getfield 163, 3) := by decide +kernel
theorem dX4_drawIdealCard_5 : decode cX4_drawIdealCard 5 = .ok (.aload_n 2, 1) := by decide +kernel
theorem dX4_drawIdealCard_6 : decode cX4_drawIdealCard 6 = .ok (.iload_n 3, 1) := by decide +kernel
theorem dX4_drawIdealCard_7 : decode cX4_drawIdealCard 7 = .ok (.invokevirtual 303, 3) := by decide +kernel
theorem dX4_drawIdealCard_10 : decode cX4_drawIdealCard 10 = .ok (.aload_n 0, 1) := by decide +kernel
theorem dX4_drawIdealCard_11 : decode cX4_drawIdealCard 11 = .ok (.aload_n 1, 1) := by decide +kernel
theorem dX4_drawIdealCard_12 : decode cX4_drawIdealCard 12 = .ok (.getfield 168, 3) := by decide +kernel
theorem dX4_drawIdealCard_15 : decode cX4_drawIdealCard 15 = .ok (.aload_n 2, 1) := by decide +kernel
theorem dX4_drawIdealCard_16 : decode cX4_drawIdealCard 16 = .ok (.invokevirtual 307, 3) := by decide +kernel
theorem dX4_drawIdealCard_19 : decode cX4_drawIdealCard 19 = .ok (.return_, 1) := by decide +kernel
theorem dX4_drawIdealOutward_0 : decode cX4_drawIdealOutward 0 = .ok (.aload_n 0, 1) := by decide +kernel
theorem dX4_drawIdealOutward_1 : decode cX4_drawIdealOutward 1 = .ok (.getfield 35, 3) := by decide +kernel
theorem dX4_drawIdealOutward_4 : decode cX4_drawIdealOutward 4 = .ok (.getfield 78, 3) := by decide +kernel
theorem dX4_drawIdealOutward_7 : decode cX4_drawIdealOutward 7 = .ok (.istore 4, 2) := by decide +kernel
theorem dX4_drawIdealOutward_9 : decode cX4_drawIdealOutward 9 = .ok (.aload_n 0, 1) := by decide +kernel
theorem dX4_drawIdealOutward_10 : decode cX4_drawIdealOutward 10 = .ok (.getfield 35, 3) := by decide +kernel
theorem dX4_drawIdealOutward_13 : decode cX4_drawIdealOutward 13 = .ok (.getfield 75, 3) := by decide +kernel
theorem dX4_drawIdealOutward_16 : decode cX4_drawIdealOutward 16 = .ok (.aload_n 0, 1) := by decide +kernel
theorem dX4_drawIdealOutward_17 : decode cX4_drawIdealOutward 17 = .ok (.getfield 35, 3) := by decide +kernel
theorem dX4_drawIdealOutward_20 : decode cX4_drawIdealOutward 20 = .ok (.aload_n 2, 1) := by decide +kernel
theorem dX4_drawIdealOutward_21 : decode cX4_drawIdealOutward 21 = .ok (.getfield 98, 3) := by decide +kernel
theorem dX4_drawIdealOutward_24 : decode cX4_drawIdealOutward 24 = .ok (.invokevirtual 311, 3) := by decide +kernel
theorem dX4_drawIdealOutward_27 : decode cX4_drawIdealOutward 27 = .ok (.imul, 1) := by decide +kernel
theorem dX4_drawIdealOutward_28 : decode cX4_drawIdealOutward 28 = .ok (.istore 5, 2) := by decide +kernel
theorem dX4_drawIdealOutward_30 : decode cX4_drawIdealOutward 30 = .ok (.aload_n 0, 1) := by decide +kernel
theorem dX4_drawIdealOutward_31 : decode cX4_drawIdealOutward 31 = .ok (.getfield 35, 3) := by decide +kernel
theorem dX4_drawIdealOutward_34 : decode cX4_drawIdealOutward 34 = .ok (.getfield 75, 3) := by decide +kernel
theorem dX4_drawIdealOutward_37 : decode cX4_drawIdealOutward 37 = .ok (.istore 6, 2) := by decide +kernel
theorem dX4_drawIdealOutward_39 : decode cX4_drawIdealOutward 39 = .ok (.iconst 0, 1) := by decide +kernel
theorem dX4_drawIdealOutward_40 : decode cX4_drawIdealOutward 40 = .ok (.istore 7, 2) := by decide +kernel
theorem dX4_drawIdealOutward_42 : decode cX4_drawIdealOutward 42 = .ok (.iload 7, 2) := by decide +kernel
theorem dX4_drawIdealOutward_44 : decode cX4_drawIdealOutward 44 = .ok (.bipush 21, 2) := by decide +kernel
theorem dX4_drawIdealOutward_46 : decode cX4_drawIdealOutward 46 = .ok (.if_icmp .ge 130, 3) := by decide +kernel
theorem dX4_drawIdealOutward_49 : decode cX4_drawIdealOutward 49 = .ok (.iload 4, 2) := by decide +kernel
theorem dX4_drawIdealOutward_51 : decode cX4_drawIdealOutward 51 = .ok (.istore 8, 2) := by decide +kernel
theorem dX4_drawIdealOutward_53 : decode cX4_drawIdealOutward 53 = .ok (.iload 7, 2) := by decide +kernel
theorem dX4_drawIdealOutward_55 : decode cX4_drawIdealOutward 55 = .ok (.aload_n 2, 1) := by decide +kernel
theorem dX4_drawIdealOutward_56 : decode cX4_drawIdealOutward 56 = .ok (.getfield 101, 3) := by decide +kernel
theorem dX4_drawIdealOutward_59 : decode cX4_drawIdealOutward 59 = .ok (.if_icmp .lt 40, 3) := by decide +kernel
theorem dX4_drawIdealOutward_62 : decode cX4_drawIdealOutward 62 = .ok (.iload 4, 2) := by decide +kernel
theorem dX4_drawIdealOutward_64 : decode cX4_drawIdealOutward 64 = .ok (.iload 6, 2) := by decide +kernel
theorem dX4_drawIdealOutward_66 : decode cX4_drawIdealOutward 66 = .ok (.isub, 1) := by decide +kernel
theorem dX4_drawIdealOutward_67 : decode cX4_drawIdealOutward 67 = .ok (.iload 7, 2) := by decide +kernel
theorem dX4_drawIdealOutward_69 : decode cX4_drawIdealOutward 69 = .ok (.aload_n 2, 1) := by decide +kernel
theorem dX4_drawIdealOutward_70 : decode cX4_drawIdealOutward 70 = .ok (.getfield 101, 3) := by decide +kernel
theorem dX4_drawIdealOutward_73 : decode cX4_drawIdealOutward 73 = .ok (.isub, 1) := by decide +kernel
theorem dX4_drawIdealOutward_74 : decode cX4_drawIdealOutward 74 = .ok (.iconst 1, 1) := by decide +kernel
theorem dX4_drawIdealOutward_75 : decode cX4_drawIdealOutward 75 = .ok (.iadd, 1) := by decide +kernel
theorem dX4_drawIdealOutward_76 : decode cX4_drawIdealOutward 76 = .ok (.imul, 1) := by decide +kernel
theorem dX4_drawIdealOutward_77 : decode cX4_drawIdealOutward 77 = .ok (.istore 9, 2) := by decide +kernel
theorem dX4_drawIdealOutward_79 : decode cX4_drawIdealOutward 79 = .ok (.iload 6, 2) := by decide +kernel
theorem dX4_drawIdealOutward_81 : decode cX4_drawIdealOutward 81 = .ok (.iload 9, 2) := by decide +kernel
theorem dX4_drawIdealOutward_83 : decode cX4_drawIdealOutward 83 = .ok (.bipush 21, 2) := by decide +kernel
theorem dX4_drawIdealOutward_85 : decode cX4_drawIdealOutward 85 = .ok (.aload_n 2, 1) := by decide +kernel
theorem dX4_drawIdealOutward_86 : decode cX4_drawIdealOutward 86 = .ok (.getfield 101, 3) := by decide +kernel
theorem dX4_drawIdealOutward_89 : decode cX4_drawIdealOutward 89 = .ok (.isub, 1) := by decide +kernel
theorem dX4_drawIdealOutward_90 : decode cX4_drawIdealOutward 90 = .ok (.invokestatic 212, 3) := by decide +kernel
theorem dX4_drawIdealOutward_93 : decode cX4_drawIdealOutward 93 = .ok (.iadd, 1) := by decide +kernel
theorem dX4_drawIdealOutward_94 : decode cX4_drawIdealOutward 94 = .ok (.istore 8, 2) := by decide +kernel
theorem dX4_drawIdealOutward_96 : decode cX4_drawIdealOutward 96 = .ok (.goto 68, 3) := by decide +kernel
theorem dX4_drawIdealOutward_99 : decode cX4_drawIdealOutward 99 = .ok (.iload 7, 2) := by decide +kernel
theorem dX4_drawIdealOutward_101 : decode cX4_drawIdealOutward 101 = .ok (.aload_n 2, 1) := by decide +kernel
theorem dX4_drawIdealOutward_102 : decode cX4_drawIdealOutward 102 = .ok (.getfield 98, 3) := by decide +kernel
theorem dX4_drawIdealOutward_105 : decode cX4_drawIdealOutward 105 = .ok (.if_icmp .le 41, 3) := by decide +kernel
theorem dX4_drawIdealOutward_108 : decode cX4_drawIdealOutward 108 = .ok (.iload 5, 2) := by decide +kernel
theorem dX4_drawIdealOutward_110 : decode cX4_drawIdealOutward 110 = .ok (.iload 5, 2) := by decide +kernel
theorem dX4_drawIdealOutward_112 : decode cX4_drawIdealOutward 112 = .ok (.iload_n 3, 1) := by decide +kernel
theorem dX4_drawIdealOutward_113 : decode cX4_drawIdealOutward 113 = .ok (.imul, 1) := by decide +kernel
theorem dX4_drawIdealOutward_114 : decode cX4_drawIdealOutward 114 = .ok (.sipush 1000, 3) := by decide +kernel
theorem dX4_drawIdealOutward_117 : decode cX4_drawIdealOutward 117 = .ok (.invokestatic 212, 3) := by decide +kernel
theorem dX4_drawIdealOutward_120 : decode cX4_drawIdealOutward 120 = .ok (.iadd, 1) := by decide +kernel
theorem dX4_drawIdealOutward_121 : decode cX4_drawIdealOutward 121 = .ok (.istore 5, 2) := by decide +kernel
theorem dX4_drawIdealOutward_123 : decode cX4_drawIdealOutward 123 = .ok (.iload 5, 2) := by decide +kernel
theorem dX4_drawIdealOutward_125 : decode cX4_drawIdealOutward 125 = .ok (.aload_n 0, 1) := by decide +kernel
theorem dX4_drawIdealOutward_126 : decode cX4_drawIdealOutward 126 = .ok (.getfield 35, 3) := by decide +kernel
theorem dX4_drawIdealOutward_129 : decode cX4_drawIdealOutward 129 = .ok (.iload 7, 2) := by decide +kernel
theorem dX4_drawIdealOutward_131 : decode cX4_drawIdealOutward 131 = .ok (.invokevirtual 311, 3) := by decide +kernel
theorem dX4_drawIdealOutward_134 : decode cX4_drawIdealOutward 134 = .ok (.invokestatic 212, 3) := by decide +kernel
theorem dX4_drawIdealOutward_137 : decode cX4_drawIdealOutward 137 = .ok (.istore 8, 2) := by decide +kernel
theorem dX4_drawIdealOutward_139 : decode cX4_drawIdealOutward 139 = .ok (.iload 8, 2) := by decide +kernel
theorem dX4_drawIdealOutward_141 : decode cX4_drawIdealOutward 141 = .ok (.istore 6, 2) := by decide +kernel
theorem dX4_drawIdealOutward_143 : decode cX4_drawIdealOutward 143 = .ok (.goto 21, 3) := by decide +kernel
theorem dX4_drawIdealOutward_146 : decode cX4_drawIdealOutward 146 = .ok (.iload 7, 2) := by decide +kernel
theorem dX4_drawIdealOutward_148 : decode cX4_drawIdealOutward 148 = .ok (.aload_n 2, 1) := by decide +kernel
theorem dX4_drawIdealOutward_149 : decode cX4_drawIdealOutward 149 = .ok (.getfield 95, 3) := by decide +kernel
theorem dX4_drawIdealOutward_152 : decode cX4_drawIdealOutward 152 = .ok (.if_icmp .lt 12, 3) := by decide +kernel
theorem dX4_drawIdealOutward_155 : decode cX4_drawIdealOutward 155 = .ok (.aload_n 0, 1) := by decide +kernel
theorem dX4_drawIdealOutward_156 : decode cX4_drawIdealOutward 156 = .ok (.getfield 35, 3) := by decide +kernel
theorem dX4_drawIdealOutward_159 : decode cX4_drawIdealOutward 159 = .ok (.getfield 75, 3) := by decide +kernel
theorem dX4_drawIdealOutward_162 : decode cX4_drawIdealOutward 162 = .ok (.istore 8, 2) := by decide +kernel
theorem dX4_drawIdealOutward_164 : decode cX4_drawIdealOutward 164 = .ok (.aload_n 1, 1) := by decide +kernel
theorem dX4_drawIdealOutward_165 : decode cX4_drawIdealOutward 165 = .ok (.iload 7, 2) := by decide +kernel
theorem dX4_drawIdealOutward_167 : decode cX4_drawIdealOutward 167 = .ok (.iload 8, 2) := by decide +kernel
theorem dX4_drawIdealOutward_169 : decode cX4_drawIdealOutward 169 = .ok (.iastore, 1) := by decide +kernel
theorem dX4_drawIdealOutward_170 : decode cX4_drawIdealOutward 170 = .ok (.iinc 7 1, 3) := by decide +kernel
theorem dX4_drawIdealOutward_173 : decode cX4_drawIdealOutward 173 = .ok (.goto (-131), 3) := by decide +kernel
theorem dX4_drawIdealOutward_176 : decode cX4_drawIdealOutward 176 = .ok (.return_, 1) := by decide +kernel
theorem dX4_drawIdealReturn_0 : decode cX4_drawIdealReturn 0 = .ok (.aload_n 0, 1) := by decide +kernel
theorem dX4_drawIdealReturn_1 : decode cX4_drawIdealReturn 1 = .ok (.getfield 35, 3) := by decide +kernel
theorem dX4_drawIdealReturn_4 : decode cX4_drawIdealReturn 4 = .ok (.getfield 78, 3) := by decide +kernel
theorem dX4_drawIdealReturn_7 : decode cX4_drawIdealReturn 7 = .ok (.istore_n 3, 1) := by decide +kernel
theorem dX4_drawIdealReturn_8 : decode cX4_drawIdealReturn 8 = .ok (.iload_n 3, 1) := by decide +kernel
theorem dX4_drawIdealReturn_9 : decode cX4_drawIdealReturn 9 = .ok (.aload_n 0, 1) := by decide +kernel
theorem dX4_drawIdealReturn_10 : decode cX4_drawIdealReturn 10 = .ok (.getfield 35, 3) := by decide +kernel
theorem dX4_drawIdealReturn_13 : decode cX4_drawIdealReturn 13 = .ok (.aload_n 2, 1) := by decide +kernel
theorem dX4_drawIdealReturn_14 : decode cX4_drawIdealReturn 14 = .ok (.getfield 104, 3) := by decide +kernel
theorem dX4_drawIdealReturn_17 : decode cX4_drawIdealReturn 17 = .ok (.invokevirtual 311, 3) := by decide +kernel
theorem dX4_drawIdealReturn_20 : decode cX4_drawIdealReturn 20 = .ok (.imul, 1) := by decide +kernel
theorem dX4_drawIdealReturn_21 : decode cX4_drawIdealReturn 21 = .ok (.istore 4, 2) := by decide +kernel
theorem dX4_drawIdealReturn_23 : decode cX4_drawIdealReturn 23 = .ok (.iconst 0, 1) := by decide +kernel
theorem dX4_drawIdealReturn_24 : decode cX4_drawIdealReturn 24 = .ok (.istore 5, 2) := by decide +kernel
theorem dX4_drawIdealReturn_26 : decode cX4_drawIdealReturn 26 = .ok (.iload 5, 2) := by decide +kernel
theorem dX4_drawIdealReturn_28 : decode cX4_drawIdealReturn 28 = .ok (.bipush 21, 2) := by decide +kernel
theorem dX4_drawIdealReturn_30 : decode cX4_drawIdealReturn 30 = .ok (.if_icmp .ge 52, 3) := by decide +kernel
theorem dX4_drawIdealReturn_33 : decode cX4_drawIdealReturn 33 = .ok (.iload 5, 2) := by decide +kernel
theorem dX4_drawIdealReturn_35 : decode cX4_drawIdealReturn 35 = .ok (.aload_n 2, 1) := by decide +kernel
theorem dX4_drawIdealReturn_36 : decode cX4_drawIdealReturn 36 = .ok (.getfield 104, 3) := by decide +kernel
theorem dX4_drawIdealReturn_39 : decode cX4_drawIdealReturn 39 = .ok (.if_icmp .ge 7, 3) := by decide +kernel
theorem dX4_drawIdealReturn_42 : decode cX4_drawIdealReturn 42 = .ok (.iconst 1, 1) := by decide +kernel
theorem dX4_drawIdealReturn_43 : decode cX4_drawIdealReturn 43 = .ok (.goto 4, 3) := by decide +kernel
theorem dX4_drawIdealReturn_46 : decode cX4_drawIdealReturn 46 = .ok (.iconst 0, 1) := by decide +kernel
theorem dX4_drawIdealReturn_47 : decode cX4_drawIdealReturn 47 = .ok (.istore 6, 2) := by decide +kernel
theorem dX4_drawIdealReturn_49 : decode cX4_drawIdealReturn 49 = .ok (.aload_n 1, 1) := by decide +kernel
theorem dX4_drawIdealReturn_50 : decode cX4_drawIdealReturn 50 = .ok (.iload 5, 2) := by decide +kernel
theorem dX4_drawIdealReturn_52 : decode cX4_drawIdealReturn 52 = .ok (.iload 6, 2) := by decide +kernel
theorem dX4_drawIdealReturn_54 : decode cX4_drawIdealReturn 54 = .ok (.ifCond .eq 20, 3) := by decide +kernel
theorem dX4_drawIdealReturn_57 : decode cX4_drawIdealReturn 57 = .ok (.iload 4, 2) := by decide +kernel
theorem dX4_drawIdealReturn_59 : decode cX4_drawIdealReturn 59 = .ok (.aload_n 0, 1) := by decide +kernel
theorem dX4_drawIdealReturn_60 : decode cX4_drawIdealReturn 60 = .ok (.getfield 35, 3) := by decide +kernel
theorem dX4_drawIdealReturn_63 : decode cX4_drawIdealReturn 63 = .ok (.iload 5, 2) := by decide +kernel
theorem dX4_drawIdealReturn_65 : decode cX4_drawIdealReturn 65 = .ok (.invokevirtual 311, 3) := by decide +kernel
theorem dX4_drawIdealReturn_68 : decode cX4_drawIdealReturn 68 = .ok (.invokestatic 212, 3) := by decide +kernel
theorem dX4_drawIdealReturn_71 : decode cX4_drawIdealReturn 71 = .ok (.goto 4, 3) := by decide +kernel
theorem dX4_drawIdealReturn_74 : decode cX4_drawIdealReturn 74 = .ok (.iload_n 3, 1) := by decide +kernel
theorem dX4_drawIdealReturn_75 : decode cX4_drawIdealReturn 75 = .ok (.iastore, 1) := by decide +kernel
theorem dX4_drawIdealReturn_76 : decode cX4_drawIdealReturn 76 = .ok (.iinc 5 1, 3) := by decide +kernel
theorem dX4_drawIdealReturn_79 : decode cX4_drawIdealReturn 79 = .ok (.goto (-53), 3) := by decide +kernel
theorem dX4_drawIdealReturn_82 : decode cX4_drawIdealReturn 82 = .ok (.return_, 1) := by decide +kernel
theorem dX4_areaWithCutOff_0 : decode cX4_areaWithCutOff 0 = .ok (.aload_n 0, 1) := by decide +kernel
theorem dX4_areaWithCutOff_1 : decode cX4_areaWithCutOff 1 = .ok (.getfield 19, 3) := by decide +kernel
theorem dX4_areaWithCutOff_4 : decode cX4_areaWithCutOff 4 = .ok (.aload_n 0, 1) := by decide +kernel
theorem dX4_areaWithCutOff_5 : decode cX4_areaWithCutOff 5 = .ok (.getfield 35, 3) := by decide +kernel
theorem dX4_areaWithCutOff_8 : decode cX4_areaWithCutOff 8 = .ok (.iload_n 1, 1) := by decide +kernel
theorem dX4_areaWithCutOff_9 : decode cX4_areaWithCutOff 9 = .ok (.invokevirtual 91, 3) := by decide +kernel
theorem dX4_areaWithCutOff_12 : decode cX4_areaWithCutOff 12 = .ok (.iconst 0, 1) := by decide +kernel
theorem dX4_areaWithCutOff_13 : decode cX4_areaWithCutOff 13 = .ok (.invokevirtual 173, 3) := by decide +kernel
theorem dX4_areaWithCutOff_16 : decode cX4_areaWithCutOff 16 = .ok (.aload_n 0, 1) := by decide +kernel
theorem dX4_areaWithCutOff_17 : decode cX4_areaWithCutOff 17 = .ok (.getfield 19, 3) := by decide +kernel
theorem dX4_areaWithCutOff_20 : decode cX4_areaWithCutOff 20 = .ok (.iload_n 2, 1) := by decide +kernel
theorem dX4_areaWithCutOff_21 : decode cX4_areaWithCutOff 21 = .ok (.putfield 98, 3) := by decide +kernel
theorem dX4_areaWithCutOff_24 : decode cX4_areaWithCutOff 24 = .ok (.aload_n 0, 1) := by decide +kernel
theorem dX4_areaWithCutOff_25 : decode cX4_areaWithCutOff 25 = .ok (.aload_n 0, 1) := by decide +kernel
theorem dX4_areaWithCutOff_26 : decode cX4_areaWithCutOff 26 = .ok (.getfield 10, 3) := by decide +kernel
theorem dX4_areaWithCutOff_29 : decode cX4_areaWithCutOff 29 = .ok (.aload_n 0, 1) := by decide +kernel
theorem dX4_areaWithCutOff_30 : decode cX4_areaWithCutOff 30 = .ok (.getfield 19, 3) := by decide +kernel
theorem dX4_areaWithCutOff_33 : decode cX4_areaWithCutOff 33 = .ok (.iconst 0, 1) := by decide +kernel
theorem dX4_areaWithCutOff_34 : decode cX4_areaWithCutOff 34 = .ok (.invokevirtual 181, 3) := by decide +kernel
theorem dX4_areaWithCutOff_37 : decode cX4_areaWithCutOff 37 = .ok (.aload_n 0, 1) := by decide +kernel
theorem dX4_areaWithCutOff_38 : decode cX4_areaWithCutOff 38 = .ok (.getfield 10, 3) := by decide +kernel
theorem dX4_areaWithCutOff_41 : decode cX4_areaWithCutOff 41 = .ok (.invokevirtual 199, 3) := by decide +kernel
theorem dX4_areaWithCutOff_44 : decode cX4_areaWithCutOff 44 = .ok (.ireturn, 1) := by decide +kernel
theorem dX4_nearestCutOff_0 : decode cX4_nearestCutOff 0 = .ok (.aload_n 0, 1) := by decide +kernel
theorem dX4_nearestCutOff_1 : decode cX4_nearestCutOff 1 = .ok (.getfield 35, 3) := by decide +kernel
theorem dX4_nearestCutOff_4 : decode cX4_nearestCutOff 4 = .ok (.iload_n 1, 1) := by decide +kernel
theorem dX4_nearestCutOff_5 : decode cX4_nearestCutOff 5 = .ok (.invokevirtual 91, 3) := by decide +kernel
theorem dX4_nearestCutOff_8 : decode cX4_nearestCutOff 8 = .ok (.astore 5, 2) := by decide +kernel
theorem dX4_nearestCutOff_10 : decode cX4_nearestCutOff 10 = .ok (.aload 5, 2) := by decide +kernel
theorem dX4_nearestCutOff_12 : decode cX4_nearestCutOff 12 = .ok (.getfield 98, 3) := by decide +kernel
theorem dX4_nearestCutOff_15 : decode cX4_nearestCutOff 15 = .ok (.istore 6, 2) := by decide +kernel
theorem dX4_nearestCutOff_17 : decode cX4_nearestCutOff 17 = .ok (.ldc2_w 316, 3) := by decide +kernel
theorem dX4_nearestCutOff_20 : decode cX4_nearestCutOff 20 = .ok (.lstore 7, 2) := by decide +kernel
theorem dX4_nearestCutOff_22 : decode cX4_nearestCutOff 22 = .ok (.iconst 1, 1) := by decide +kernel
theorem dX4_nearestCutOff_23 : decode cX4_nearestCutOff 23 = .ok (.istore 9, 2) := by decide +kernel
theorem dX4_nearestCutOff_25 : decode cX4_nearestCutOff 25 = .ok (.iload 9, 2) := by decide +kernel
theorem dX4_nearestCutOff_27 : decode cX4_nearestCutOff 27 = .ok (.bipush 18, 2) := by decide +kernel
theorem dX4_nearestCutOff_29 : decode cX4_nearestCutOff 29 = .ok (.if_icmp .gt 85, 3) := by decide +kernel
theorem dX4_nearestCutOff_32 : decode cX4_nearestCutOff 32 = .ok (.iload 9, 2) := by decide +kernel
theorem dX4_nearestCutOff_34 : decode cX4_nearestCutOff 34 = .ok (.aload 5, 2) := by decide +kernel
theorem dX4_nearestCutOff_36 : decode cX4_nearestCutOff 36 = .ok (.getfield 95, 3) := by decide +kernel
theorem dX4_nearestCutOff_39 : decode cX4_nearestCutOff 39 = .ok (.if_icmp .le 69, 3) := by decide +kernel
theorem dX4_nearestCutOff_42 : decode cX4_nearestCutOff 42 = .ok (.iload 9, 2) := by decide +kernel
theorem dX4_nearestCutOff_44 : decode cX4_nearestCutOff 44 = .ok (.aload 5, 2) := by decide +kernel
theorem dX4_nearestCutOff_46 : decode cX4_nearestCutOff 46 = .ok (.getfield 101, 3) := by decide +kernel
theorem dX4_nearestCutOff_49 : decode cX4_nearestCutOff 49 = .ok (.if_icmp .ge 59, 3) := by decide +kernel
theorem dX4_nearestCutOff_52 : decode cX4_nearestCutOff 52 = .ok (.aload_n 0, 1) := by decide +kernel
theorem dX4_nearestCutOff_53 : decode cX4_nearestCutOff 53 = .ok (.iload_n 1, 1) := by decide +kernel
theorem dX4_nearestCutOff_54 : decode cX4_nearestCutOff 54 = .ok (.iload 9, 2) := by decide +kernel
theorem dX4_nearestCutOff_56 : decode cX4_nearestCutOff 56 = .ok (.invokevirtual 268, 3) := by decide +kernel
theorem dX4_nearestCutOff_59 : decode cX4_nearestCutOff 59 = .ok (.istore 10, 2) := by decide +kernel
theorem dX4_nearestCutOff_61 : decode cX4_nearestCutOff 61 = .ok (.iload 4, 2) := by decide +kernel
theorem dX4_nearestCutOff_63 : decode cX4_nearestCutOff 63 = .ok (.ifCond .eq 15, 3) := by decide +kernel
theorem dX4_nearestCutOff_66 : decode cX4_nearestCutOff 66 = .ok (.aload_n 0, 1) := by decide +kernel
theorem dX4_nearestCutOff_67 : decode cX4_nearestCutOff 67 = .ok (.iload 10, 2) := by decide +kernel
theorem dX4_nearestCutOff_69 : decode cX4_nearestCutOff 69 = .ok (.iload_n 1, 1) := by decide +kernel
theorem dX4_nearestCutOff_70 : decode cX4_nearestCutOff 70 = .ok (.bipush 60, 2) := by decide +kernel
theorem dX4_nearestCutOff_72 : decode cX4_nearestCutOff 72 = .ok (.invokevirtual 280, 3) := by decide +kernel
theorem dX4_nearestCutOff_75 : decode cX4_nearestCutOff 75 = .ok (.goto 6, 3) := by decide +kernel
theorem dX4_nearestCutOff_78 : decode cX4_nearestCutOff 78 = .ok (.iload 10, 2) := by decide +kernel
theorem dX4_nearestCutOff_80 : decode cX4_nearestCutOff 80 = .ok (.i2l, 1) := by decide +kernel
theorem dX4_nearestCutOff_81 : decode cX4_nearestCutOff 81 = .ok (.lstore 11, 2) := by decide +kernel
theorem dX4_nearestCutOff_83 : decode cX4_nearestCutOff 83 = .ok (.lload 11, 2) := by decide +kernel
theorem dX4_nearestCutOff_85 : decode cX4_nearestCutOff 85 = .ok (.lload_n 2, 1) := by decide +kernel
theorem dX4_nearestCutOff_86 : decode cX4_nearestCutOff 86 = .ok (.lsub, 1) := by decide +kernel
theorem dX4_nearestCutOff_87 : decode cX4_nearestCutOff 87 = .ok (.invokestatic 249, 3) := by decide +kernel
theorem dX4_nearestCutOff_90 : decode cX4_nearestCutOff 90 = .ok (.lstore 13, 2) := by decide +kernel
theorem dX4_nearestCutOff_92 : decode cX4_nearestCutOff 92 = .ok (.lload 13, 2) := by decide +kernel
theorem dX4_nearestCutOff_94 : decode cX4_nearestCutOff 94 = .ok (.lload 7, 2) := by decide +kernel
theorem dX4_nearestCutOff_96 : decode cX4_nearestCutOff 96 = .ok (.lcmp, 1) := by decide +kernel
theorem dX4_nearestCutOff_97 : decode cX4_nearestCutOff 97 = .ok (.ifCond .ge 11, 3) := by decide +kernel
theorem dX4_nearestCutOff_100 : decode cX4_nearestCutOff 100 = .ok (.lload 13, 2) := by decide +kernel
theorem dX4_nearestCutOff_102 : decode cX4_nearestCutOff 102 = .ok (.lstore 7, 2) := by decide +kernel
theorem dX4_nearestCutOff_104 : decode cX4_nearestCutOff 104 = .ok (.iload 9, 2) := by decide +kernel
theorem dX4_nearestCutOff_106 : decode cX4_nearestCutOff 106 = .ok (.istore 6, 2) := by decide +kernel
theorem dX4_nearestCutOff_108 : decode cX4_nearestCutOff 108 = .ok (.iinc 9 1, 3) := by decide +kernel
theorem dX4_nearestCutOff_111 : decode cX4_nearestCutOff 111 = .ok (.goto (-86), 3) := by decide +kernel
theorem dX4_nearestCutOff_114 : decode cX4_nearestCutOff 114 = .ok (.iload 6, 2) := by decide +kernel
theorem dX4_nearestCutOff_116 : decode cX4_nearestCutOff 116 = .ok (.ireturn, 1) := by decide +kernel
theorem dX4_powerFrom_0 : decode cX4_powerFrom 0 = .ok (.iload_n 1, 1) := by decide +kernel
theorem dX4_powerFrom_1 : decode cX4_powerFrom 1 = .ok (.i2l, 1) := by decide +kernel
theorem dX4_powerFrom_2 : decode cX4_powerFrom 2 = .ok (.aload_n 0, 1) := by decide +kernel
theorem dX4_powerFrom_3 : decode cX4_powerFrom 3 = .ok (.getfield 35, 3) := by decide +kernel
theorem dX4_powerFrom_6 : decode cX4_powerFrom 6 = .ok (.iload_n 2, 1) := by decide +kernel
theorem dX4_powerFrom_7 : decode cX4_powerFrom 7 = .ok (.invokevirtual 62, 3) := by decide +kernel
theorem dX4_powerFrom_10 : decode cX4_powerFrom 10 = .ok (.i2l, 1) := by decide +kernel
theorem dX4_powerFrom_11 : decode cX4_powerFrom 11 = .ok (.lmul, 1) := by decide +kernel
theorem dX4_powerFrom_12 : decode cX4_powerFrom 12 = .ok (.aload_n 0, 1) := by decide +kernel
theorem dX4_powerFrom_13 : decode cX4_powerFrom 13 = .ok (.getfield 35, 3) := by decide +kernel
theorem dX4_powerFrom_16 : decode cX4_powerFrom 16 = .ok (.getfield 72, 3) := by decide +kernel
theorem dX4_powerFrom_19 : decode cX4_powerFrom 19 = .ok (.i2l, 1) := by decide +kernel
theorem dX4_powerFrom_20 : decode cX4_powerFrom 20 = .ok (.lmul, 1) := by decide +kernel
theorem dX4_powerFrom_21 : decode cX4_powerFrom 21 = .ok (.lstore 4, 2) := by decide +kernel
theorem dX4_powerFrom_23 : decode cX4_powerFrom 23 = .ok (.lload 4, 2) := by decide +kernel
theorem dX4_powerFrom_25 : decode cX4_powerFrom 25 = .ok (.iload_n 3, 1) := by decide +kernel
theorem dX4_powerFrom_26 : decode cX4_powerFrom 26 = .ok (.i2l, 1) := by decide +kernel
theorem dX4_powerFrom_27 : decode cX4_powerFrom 27 = .ok (.lmul, 1) := by decide +kernel
theorem dX4_powerFrom_28 : decode cX4_powerFrom 28 = .ok (.ldc2_w 318, 3) := by decide +kernel
theorem dX4_powerFrom_31 : decode cX4_powerFrom 31 = .ok (.invokestatic 257, 3) := by decide +kernel
theorem dX4_powerFrom_34 : decode cX4_powerFrom 34 = .ok (.lreturn, 1) := by decide +kernel
theorem dX4_powerOfCard_0 : decode cX4_powerOfCard 0 = .ok (.aload_n 0, 1) := by decide +kernel
theorem dX4_powerOfCard_1 : decode cX4_powerOfCard 1 = .ok (.aload_n 1, 1) := by decide +kernel
theorem dX4_powerOfCard_2 : decode cX4_powerOfCard 2 = .ok (.invokevirtual 199, 3) := by decide +kernel
theorem dX4_powerOfCard_5 : decode cX4_powerOfCard 5 = .ok (.aload_n 1, 1) := by decide +kernel
theorem dX4_powerOfCard_6 : decode cX4_powerOfCard 6 = .ok (.getfield 158, 3) := by decide +kernel
theorem dX4_powerOfCard_9 : decode cX4_powerOfCard 9 = .ok (.aload_n 1, 1) := by decide +kernel
theorem dX4_powerOfCard_10 : decode cX4_powerOfCard 10 = .ok (.getfield 162, 3) := by decide +kernel
theorem dX4_powerOfCard_13 : decode cX4_powerOfCard 13 = .ok (.invokevirtual 280, 3) := by decide +kernel
theorem dX4_powerOfCard_16 : decode cX4_powerOfCard 16 = .ok (.lreturn, 1) := by decide +kernel
theorem dX4_findEvents_0 : decode cX4_findEvents 0 = .ok (.aload_n 0, 1) := by decide +kernel
theorem dX4_findEvents_1 : decode cX4_findEvents 1 = .ok (.getfield 23, 3) := by decide +kernel
theorem dX4_findEvents_4 : decode cX4_findEvents 4 = .ok (.aload_n 0, 1) := by decide +kernel
theorem dX4_findEvents_5 : decode cX4_findEvents 5 = .ok (.aload_n 1, 1) := by decide +kernel
theorem dX4_findEvents_6 : decode cX4_findEvents 6 = .ok (.getfield 163, 3) := by decide +kernel
theorem dX4_findEvents_9 : decode cX4_findEvents 9 = .ok (.invokevirtual 320, 3) := by decide +kernel
theorem dX4_findEvents_12 : decode cX4_findEvents 12 = .ok (.putfield 95, 3) := by decide +kernel
theorem dX4_findEvents_15 : decode cX4_findEvents 15 = .ok (.aload_n 0, 1) := by decide +kernel
theorem dX4_findEvents_16 : decode cX4_findEvents 16 = .ok (.getfield 23, 3) := by decide +kernel
theorem dX4_findEvents_19 : decode cX4_findEvents 19 = .ok (.aload_n 0, 1) := by decide +kernel
theorem dX4_findEvents_20 : decode cX4_findEvents 20 = .ok (.aload_n 1, 1) := by decide +kernel
theorem dX4_findEvents_21 : decode cX4_findEvents 21 = .ok (.getfield 163, 3) := by decide +kernel
theorem dX4_findEvents_24 : decode cX4_findEvents 24 = .ok (.aload_n 0, 1) := by decide +kernel
theorem dX4_findEvents_25 : decode cX4_findEvents 25 = .ok (.getfield 23, 3) := by decide +kernel
theorem dX4_findEvents_28 : decode cX4_findEvents 28 = .ok (.getfield 95, 3) := by decide +kernel
theorem dX4_findEvents_31 : decode cX4_findEvents 31 = .ok (.invokevirtual 323, 3) := by decide +kernel
theorem dX4_findEvents_34 : decode cX4_findEvents 34 = .ok (.putfield 98, 3) := by decide +kernel
theorem dX4_findEvents_37 : decode cX4_findEvents 37 = .ok (.aload_n 0, 1) := by decide +kernel
theorem dX4_findEvents_38 : decode cX4_findEvents 38 = .ok (.getfield 23, 3) := by decide +kernel
theorem dX4_findEvents_41 : decode cX4_findEvents 41 = .ok (.aload_n 0, 1) := by decide +kernel
theorem dX4_findEvents_42 : decode cX4_findEvents 42 = .ok (.aload_n 1, 1) := by decide +kernel
theorem dX4_findEvents_43 : decode cX4_findEvents 43 = .ok (.aload_n 0, 1) := by decide +kernel
theorem dX4_findEvents_44 : decode cX4_findEvents 44 = .ok (.getfield 23, 3) := by decide +kernel
theorem dX4_findEvents_47 : decode cX4_findEvents 47 = .ok (.getfield 98, 3) := by decide +kernel
theorem dX4_findEvents_50 : decode cX4_findEvents 50 = .ok (.invokevirtual 326, 3) := by decide +kernel
theorem dX4_findEvents_53 : decode cX4_findEvents 53 = .ok (.putfield 101, 3) := by decide +kernel
theorem dX4_findEvents_56 : decode cX4_findEvents 56 = .ok (.aload_n 0, 1) := by decide +kernel
theorem dX4_findEvents_57 : decode cX4_findEvents 57 = .ok (.getfield 23, 3) := by decide +kernel
theorem dX4_findEvents_60 : decode cX4_findEvents 60 = .ok (.aload_n 0, 1) := by decide +kernel
theorem dX4_findEvents_61 : decode cX4_findEvents 61 = .ok (.aload_n 1, 1) := by decide +kernel
theorem dX4_findEvents_62 : decode cX4_findEvents 62 = .ok (.getfield 168, 3) := by decide +kernel
theorem dX4_findEvents_65 : decode cX4_findEvents 65 = .ok (.invokevirtual 329, 3) := by decide +kernel
theorem dX4_findEvents_68 : decode cX4_findEvents 68 = .ok (.putfield 104, 3) := by decide +kernel
theorem dX4_findEvents_71 : decode cX4_findEvents 71 = .ok (.return_, 1) := by decide +kernel
theorem dX4_findAdmission_0 : decode cX4_findAdmission 0 = .ok (.aload_n 1, 1) := by decide +kernel
theorem dX4_findAdmission_1 : decode cX4_findAdmission 1 = .ok (.invokestatic 332, 3) := by decide +kernel
theorem dX4_findAdmission_4 : decode cX4_findAdmission 4 = .ok (.aload_n 0, 1) := by decide +kernel
theorem dX4_findAdmission_5 : decode cX4_findAdmission 5 = .ok (.getfield 35, 3) := by decide +kernel
theorem dX4_findAdmission_8 : decode cX4_findAdmission 8 = .ok (.getfield 81, 3) := by decide +kernel
theorem dX4_findAdmission_11 : decode cX4_findAdmission 11 = .ok (.isub, 1) := by decide +kernel
theorem dX4_findAdmission_12 : decode cX4_findAdmission 12 = .ok (.istore_n 2, 1) := by decide +kernel
theorem dX4_findAdmission_13 : decode cX4_findAdmission 13 = .ok (.iconst 0, 1) := by decide +kernel
theorem dX4_findAdmission_14 : decode cX4_findAdmission 14 = .ok (.istore_n 3, 1) := by decide +kernel
theorem dX4_findAdmission_15 : decode cX4_findAdmission 15 = .ok (.iload_n 3, 1) := by decide +kernel
theorem dX4_findAdmission_16 : decode cX4_findAdmission 16 = .ok (.bipush 20, 2) := by decide +kernel
theorem dX4_findAdmission_18 : decode cX4_findAdmission 18 = .ok (.if_icmp .ge 16, 3) := by decide +kernel
theorem dX4_findAdmission_21 : decode cX4_findAdmission 21 = .ok (.aload_n 1, 1) := by decide +kernel
theorem dX4_findAdmission_22 : decode cX4_findAdmission 22 = .ok (.iload_n 3, 1) := by decide +kernel
theorem dX4_findAdmission_23 : decode cX4_findAdmission 23 = .ok (.iaload, 1) := by decide +kernel
theorem dX4_findAdmission_24 : decode cX4_findAdmission 24 = .ok (.iload_n 2, 1) := by decide +kernel
theorem dX4_findAdmission_25 : decode cX4_findAdmission 25 = .ok (.if_icmp .ge 9, 3) := by decide +kernel
theorem dX4_findAdmission_28 : decode cX4_findAdmission 28 = .ok (.iinc 3 1, 3) := by decide +kernel
theorem dX4_findAdmission_31 : decode cX4_findAdmission 31 = .ok (.goto (-16), 3) := by decide +kernel
theorem dX4_findAdmission_34 : decode cX4_findAdmission 34 = .ok (.iload_n 3, 1) := by decide +kernel
theorem dX4_findAdmission_35 : decode cX4_findAdmission 35 = .ok (.ireturn, 1) := by decide +kernel
theorem dX4_findCutOff_0 : decode cX4_findCutOff 0 = .ok (.aload_n 1, 1) := by decide +kernel
theorem dX4_findCutOff_1 : decode cX4_findCutOff 1 = .ok (.invokestatic 332, 3) := by decide +kernel
theorem dX4_findCutOff_4 : decode cX4_findCutOff 4 = .ok (.aload_n 0, 1) := by decide +kernel
theorem dX4_findCutOff_5 : decode cX4_findCutOff 5 = .ok (.getfield 35, 3) := by decide +kernel
theorem dX4_findCutOff_8 : decode cX4_findCutOff 8 = .ok (.getfield 81, 3) := by decide +kernel
theorem dX4_findCutOff_11 : decode cX4_findCutOff 11 = .ok (.isub, 1) := by decide +kernel
theorem dX4_findCutOff_12 : decode cX4_findCutOff 12 = .ok (.istore_n 3, 1) := by decide +kernel
theorem dX4_findCutOff_13 : decode cX4_findCutOff 13 = .ok (.iload_n 2, 1) := by decide +kernel
theorem dX4_findCutOff_14 : decode cX4_findCutOff 14 = .ok (.istore 4, 2) := by decide +kernel
theorem dX4_findCutOff_16 : decode cX4_findCutOff 16 = .ok (.iload 4, 2) := by decide +kernel
theorem dX4_findCutOff_18 : decode cX4_findCutOff 18 = .ok (.bipush 20, 2) := by decide +kernel
theorem dX4_findCutOff_20 : decode cX4_findCutOff 20 = .ok (.if_icmp .ge 19, 3) := by decide +kernel
theorem dX4_findCutOff_23 : decode cX4_findCutOff 23 = .ok (.aload_n 1, 1) := by decide +kernel
theorem dX4_findCutOff_24 : decode cX4_findCutOff 24 = .ok (.iload 4, 2) := by decide +kernel
theorem dX4_findCutOff_26 : decode cX4_findCutOff 26 = .ok (.iconst 1, 1) := by decide +kernel
theorem dX4_findCutOff_27 : decode cX4_findCutOff 27 = .ok (.iadd, 1) := by decide +kernel
theorem dX4_findCutOff_28 : decode cX4_findCutOff 28 = .ok (.iaload, 1) := by decide +kernel
theorem dX4_findCutOff_29 : decode cX4_findCutOff 29 = .ok (.iload_n 3, 1) := by decide +kernel
theorem dX4_findCutOff_30 : decode cX4_findCutOff 30 = .ok (.if_icmp .lt 9, 3) := by decide +kernel
theorem dX4_findCutOff_33 : decode cX4_findCutOff 33 = .ok (.iinc 4 1, 3) := by decide +kernel
theorem dX4_findCutOff_36 : decode cX4_findCutOff 36 = .ok (.goto (-20), 3) := by decide +kernel
theorem dX4_findCutOff_39 : decode cX4_findCutOff 39 = .ok (.iload 4, 2) := by decide +kernel
theorem dX4_findCutOff_41 : decode cX4_findCutOff 41 = .ok (.ireturn, 1) := by decide +kernel
theorem dX4_findRelease_0 : decode cX4_findRelease 0 = .ok (.aload_n 0, 1) := by decide +kernel
theorem dX4_findRelease_1 : decode cX4_findRelease 1 = .ok (.aload_n 1, 1) := by decide +kernel
theorem dX4_findRelease_2 : decode cX4_findRelease 2 = .ok (.iload_n 2, 1) := by decide +kernel
theorem dX4_findRelease_3 : decode cX4_findRelease 3 = .ok (.invokevirtual 232, 3) := by decide +kernel
theorem dX4_findRelease_6 : decode cX4_findRelease 6 = .ok (.bipush 100, 2) := by decide +kernel
theorem dX4_findRelease_8 : decode cX4_findRelease 8 = .ok (.aload_n 0, 1) := by decide +kernel
theorem dX4_findRelease_9 : decode cX4_findRelease 9 = .ok (.getfield 35, 3) := by decide +kernel
theorem dX4_findRelease_12 : decode cX4_findRelease 12 = .ok (.getfield 84, 3) := by decide +kernel
theorem dX4_findRelease_15 : decode cX4_findRelease 15 = .ok (.isub, 1) := by decide +kernel
theorem dX4_findRelease_16 : decode cX4_findRelease 16 = .ok (.imul, 1) := by decide +kernel
theorem dX4_findRelease_17 : decode cX4_findRelease 17 = .ok (.istore_n 3, 1) := by decide +kernel
theorem dX4_findRelease_18 : decode cX4_findRelease 18 = .ok (.iload_n 2, 1) := by decide +kernel
theorem dX4_findRelease_19 : decode cX4_findRelease 19 = .ok (.iconst 1, 1) := by decide +kernel
theorem dX4_findRelease_20 : decode cX4_findRelease 20 = .ok (.iadd, 1) := by decide +kernel
theorem dX4_findRelease_21 : decode cX4_findRelease 21 = .ok (.istore 4, 2) := by decide +kernel
theorem dX4_findRelease_23 : decode cX4_findRelease 23 = .ok (.iload 4, 2) := by decide +kernel
theorem dX4_findRelease_25 : decode cX4_findRelease 25 = .ok (.bipush 21, 2) := by decide +kernel
theorem dX4_findRelease_27 : decode cX4_findRelease 27 = .ok (.if_icmp .ge 26, 3) := by decide +kernel
theorem dX4_findRelease_30 : decode cX4_findRelease 30 = .ok (.aload_n 0, 1) := by decide +kernel
theorem dX4_findRelease_31 : decode cX4_findRelease 31 = .ok (.aload_n 1, 1) := by decide +kernel
theorem dX4_findRelease_32 : decode cX4_findRelease 32 = .ok (.iload 4, 2) := by decide +kernel
theorem dX4_findRelease_34 : decode cX4_findRelease 34 = .ok (.invokevirtual 232, 3) := by decide +kernel
theorem dX4_findRelease_37 : decode cX4_findRelease 37 = .ok (.bipush 100, 2) := by decide +kernel
theorem dX4_findRelease_39 : decode cX4_findRelease 39 = .ok (.imul, 1) := by decide +kernel
theorem dX4_findRelease_40 : decode cX4_findRelease 40 = .ok (.iload_n 3, 1) := by decide +kernel
theorem dX4_findRelease_41 : decode cX4_findRelease 41 = .ok (.if_icmp .ge 6, 3) := by decide +kernel
theorem dX4_findRelease_44 : decode cX4_findRelease 44 = .ok (.iload 4, 2) := by decide +kernel
theorem dX4_findRelease_46 : decode cX4_findRelease 46 = .ok (.ireturn, 1) := by decide +kernel
theorem dX4_findRelease_47 : decode cX4_findRelease 47 = .ok (.iinc 4 1, 3) := by decide +kernel
theorem dX4_findRelease_50 : decode cX4_findRelease 50 = .ok (.goto (-27), 3) := by decide +kernel
theorem dX4_findRelease_53 : decode cX4_findRelease 53 = .ok (.bipush 20, 2) := by decide +kernel
theorem dX4_findRelease_55 : decode cX4_findRelease 55 = .ok (.ireturn, 1) := by decide +kernel
theorem dX4_findCompression_0 : decode cX4_findCompression 0 = .ok (.aload_n 1, 1) := by decide +kernel
theorem dX4_findCompression_1 : decode cX4_findCompression 1 = .ok (.invokestatic 335, 3) := by decide +kernel
theorem dX4_findCompression_4 : decode cX4_findCompression 4 = .ok (.aload_n 0, 1) := by decide +kernel
theorem dX4_findCompression_5 : decode cX4_findCompression 5 = .ok (.getfield 35, 3) := by decide +kernel
theorem dX4_findCompression_8 : decode cX4_findCompression 8 = .ok (.getfield 81, 3) := by decide +kernel
theorem dX4_findCompression_11 : decode cX4_findCompression 11 = .ok (.iadd, 1) := by decide +kernel
theorem dX4_findCompression_12 : decode cX4_findCompression 12 = .ok (.istore_n 2, 1) := by decide +kernel
theorem dX4_findCompression_13 : decode cX4_findCompression 13 = .ok (.aload_n 1, 1) := by decide +kernel
theorem dX4_findCompression_14 : decode cX4_findCompression 14 = .ok (.bipush 20, 2) := by decide +kernel
theorem dX4_findCompression_16 : decode cX4_findCompression 16 = .ok (.iaload, 1) := by decide +kernel
theorem dX4_findCompression_17 : decode cX4_findCompression 17 = .ok (.iload_n 2, 1) := by decide +kernel
theorem dX4_findCompression_18 : decode cX4_findCompression 18 = .ok (.if_icmp .le 6, 3) := by decide +kernel
theorem dX4_findCompression_21 : decode cX4_findCompression 21 = .ok (.bipush 20, 2) := by decide +kernel
theorem dX4_findCompression_23 : decode cX4_findCompression 23 = .ok (.ireturn, 1) := by decide +kernel
theorem dX4_findCompression_24 : decode cX4_findCompression 24 = .ok (.bipush 20, 2) := by decide +kernel
theorem dX4_findCompression_26 : decode cX4_findCompression 26 = .ok (.istore_n 3, 1) := by decide +kernel
theorem dX4_findCompression_27 : decode cX4_findCompression 27 = .ok (.iload_n 3, 1) := by decide +kernel
theorem dX4_findCompression_28 : decode cX4_findCompression 28 = .ok (.ifCond .le 18, 3) := by decide +kernel
theorem dX4_findCompression_31 : decode cX4_findCompression 31 = .ok (.aload_n 1, 1) := by decide +kernel
theorem dX4_findCompression_32 : decode cX4_findCompression 32 = .ok (.iload_n 3, 1) := by decide +kernel
theorem dX4_findCompression_33 : decode cX4_findCompression 33 = .ok (.iconst 1, 1) := by decide +kernel
theorem dX4_findCompression_34 : decode cX4_findCompression 34 = .ok (.isub, 1) := by decide +kernel
theorem dX4_findCompression_35 : decode cX4_findCompression 35 = .ok (.iaload, 1) := by decide +kernel
theorem dX4_findCompression_36 : decode cX4_findCompression 36 = .ok (.iload_n 2, 1) := by decide +kernel
theorem dX4_findCompression_37 : decode cX4_findCompression 37 = .ok (.if_icmp .gt 9, 3) := by decide +kernel
theorem dX4_findCompression_40 : decode cX4_findCompression 40 = .ok (.iinc 3 (-1), 3) := by decide +kernel
theorem dX4_findCompression_43 : decode cX4_findCompression 43 = .ok (.goto (-16), 3) := by decide +kernel
theorem dX4_findCompression_46 : decode cX4_findCompression 46 = .ok (.iload_n 3, 1) := by decide +kernel
theorem dX4_findCompression_47 : decode cX4_findCompression 47 = .ok (.ireturn, 1) := by decide +kernel
theorem dX4_constantAt_0 : decode cX4_constantAt 0 = .ok (.aload_n 1, 1) := by decide +kernel
theorem dX4_constantAt_1 : decode cX4_constantAt 1 = .ok (.getfield 163, 3) := by decide +kernel
theorem dX4_constantAt_4 : decode cX4_constantAt 4 = .ok (.iload_n 2, 1) := by decide +kernel
theorem dX4_constantAt_5 : decode cX4_constantAt 5 = .ok (.iaload, 1) := by decide +kernel
theorem dX4_constantAt_6 : decode cX4_constantAt 6 = .ok (.aload_n 0, 1) := by decide +kernel
theorem dX4_constantAt_7 : decode cX4_constantAt 7 = .ok (.getfield 35, 3) := by decide +kernel
theorem dX4_constantAt_10 : decode cX4_constantAt 10 = .ok (.iload_n 2, 1) := by decide +kernel
theorem dX4_constantAt_11 : decode cX4_constantAt 11 = .ok (.invokevirtual 311, 3) := by decide +kernel
theorem dX4_constantAt_14 : decode cX4_constantAt 14 = .ok (.imul, 1) := by decide +kernel
theorem dX4_constantAt_15 : decode cX4_constantAt 15 = .ok (.ireturn, 1) := by decide +kernel
theorem dX4_greatestOf_0 : decode cX4_greatestOf 0 = .ok (.aload_n 0, 1) := by decide +kernel
theorem dX4_greatestOf_1 : decode cX4_greatestOf 1 = .ok (.iconst 0, 1) := by decide +kernel
theorem dX4_greatestOf_2 : decode cX4_greatestOf 2 = .ok (.iaload, 1) := by decide +kernel
theorem dX4_greatestOf_3 : decode cX4_greatestOf 3 = .ok (.istore_n 1, 1) := by decide +kernel
theorem dX4_greatestOf_4 : decode cX4_greatestOf 4 = .ok (.iconst 1, 1) := by decide +kernel
theorem dX4_greatestOf_5 : decode cX4_greatestOf 5 = .ok (.istore_n 2, 1) := by decide +kernel
theorem dX4_greatestOf_6 : decode cX4_greatestOf 6 = .ok (.iload_n 2, 1) := by decide +kernel
theorem dX4_greatestOf_7 : decode cX4_greatestOf 7 = .ok (.bipush 21, 2) := by decide +kernel
theorem dX4_greatestOf_9 : decode cX4_greatestOf 9 = .ok (.if_icmp .ge 17, 3) := by decide +kernel
theorem dX4_greatestOf_12 : decode cX4_greatestOf 12 = .ok (.iload_n 1, 1) := by decide +kernel
theorem dX4_greatestOf_13 : decode cX4_greatestOf 13 = .ok (.aload_n 0, 1) := by decide +kernel
theorem dX4_greatestOf_14 : decode cX4_greatestOf 14 = .ok (.iload_n 2, 1) := by decide +kernel
theorem dX4_greatestOf_15 : decode cX4_greatestOf 15 = .ok (.iaload, 1) := by decide +kernel
theorem dX4_greatestOf_16 : decode cX4_greatestOf 16 = .ok (.invokestatic 338, 3) := by decide +kernel
theorem dX4_greatestOf_19 : decode cX4_greatestOf 19 = .ok (.istore_n 1, 1) := by decide +kernel
theorem dX4_greatestOf_20 : decode cX4_greatestOf 20 = .ok (.iinc 2 1, 3) := by decide +kernel
theorem dX4_greatestOf_23 : decode cX4_greatestOf 23 = .ok (.goto (-17), 3) := by decide +kernel
theorem dX4_greatestOf_26 : decode cX4_greatestOf 26 = .ok (.iload_n 1, 1) := by decide +kernel
theorem dX4_greatestOf_27 : decode cX4_greatestOf 27 = .ok (.ireturn, 1) := by decide +kernel
theorem dX4_leastOf_0 : decode cX4_leastOf 0 = .ok (.aload_n 0, 1) := by decide +kernel
theorem dX4_leastOf_1 : decode cX4_leastOf 1 = .ok (.iconst 0, 1) := by decide +kernel
theorem dX4_leastOf_2 : decode cX4_leastOf 2 = .ok (.iaload, 1) := by decide +kernel
theorem dX4_leastOf_3 : decode cX4_leastOf 3 = .ok (.istore_n 1, 1) := by decide +kernel
theorem dX4_leastOf_4 : decode cX4_leastOf 4 = .ok (.iconst 1, 1) := by decide +kernel
theorem dX4_leastOf_5 : decode cX4_leastOf 5 = .ok (.istore_n 2, 1) := by decide +kernel
theorem dX4_leastOf_6 : decode cX4_leastOf 6 = .ok (.iload_n 2, 1) := by decide +kernel
theorem dX4_leastOf_7 : decode cX4_leastOf 7 = .ok (.bipush 21, 2) := by decide +kernel
theorem dX4_leastOf_9 : decode cX4_leastOf 9 = .ok (.if_icmp .ge 17, 3) := by decide +kernel
theorem dX4_leastOf_12 : decode cX4_leastOf 12 = .ok (.iload_n 1, 1) := by decide +kernel
theorem dX4_leastOf_13 : decode cX4_leastOf 13 = .ok (.aload_n 0, 1) := by decide +kernel
theorem dX4_leastOf_14 : decode cX4_leastOf 14 = .ok (.iload_n 2, 1) := by decide +kernel
theorem dX4_leastOf_15 : decode cX4_leastOf 15 = .ok (.iaload, 1) := by decide +kernel
theorem dX4_leastOf_16 : decode cX4_leastOf 16 = .ok (.invokestatic 341, 3) := by decide +kernel
theorem dX4_leastOf_19 : decode cX4_leastOf 19 = .ok (.istore_n 1, 1) := by decide +kernel
theorem dX4_leastOf_20 : decode cX4_leastOf 20 = .ok (.iinc 2 1, 3) := by decide +kernel
theorem dX4_leastOf_23 : decode cX4_leastOf 23 = .ok (.goto (-17), 3) := by decide +kernel
theorem dX4_leastOf_26 : decode cX4_leastOf 26 = .ok (.iload_n 1, 1) := by decide +kernel
theorem dX4_leastOf_27 : decode cX4_leastOf 27 = .ok (.ireturn, 1) := by decide +kernel
theorem dX4_foundLateness_0 : decode cX4_foundLateness 0 = .ok (.aload_n 0, 1) := by decide +kernel
theorem dX4_foundLateness_1 : decode cX4_foundLateness 1 = .ok (.getfield 23, 3) := by decide +kernel
theorem dX4_foundLateness_4 : decode cX4_foundLateness 4 = .ok (.iload_n 2, 1) := by decide +kernel
theorem dX4_foundLateness_5 : decode cX4_foundLateness 5 = .ok (.invokevirtual 110, 3) := by decide +kernel
theorem dX4_foundLateness_8 : decode cX4_foundLateness 8 = .ok (.aload_n 1, 1) := by decide +kernel
theorem dX4_foundLateness_9 : decode cX4_foundLateness 9 = .ok (.iload_n 2, 1) := by decide +kernel
theorem dX4_foundLateness_10 : decode cX4_foundLateness 10 = .ok (.invokevirtual 110, 3) := by decide +kernel
theorem dX4_foundLateness_13 : decode cX4_foundLateness 13 = .ok (.isub, 1) := by decide +kernel
theorem dX4_foundLateness_14 : decode cX4_foundLateness 14 = .ok (.istore_n 3, 1) := by decide +kernel
theorem dX4_foundLateness_15 : decode cX4_foundLateness 15 = .ok (.iload_n 2, 1) := by decide +kernel
theorem dX4_foundLateness_16 : decode cX4_foundLateness 16 = .ok (.iconst 3, 1) := by decide +kernel
theorem dX4_foundLateness_17 : decode cX4_foundLateness 17 = .ok (.if_icmp .ne 8, 3) := by decide +kernel
theorem dX4_foundLateness_20 : decode cX4_foundLateness 20 = .ok (.iload_n 3, 1) := by decide +kernel
theorem dX4_foundLateness_21 : decode cX4_foundLateness 21 = .ok (.ineg, 1) := by decide +kernel
theorem dX4_foundLateness_22 : decode cX4_foundLateness 22 = .ok (.goto 4, 3) := by decide +kernel
theorem dX4_foundLateness_25 : decode cX4_foundLateness 25 = .ok (.iload_n 3, 1) := by decide +kernel
theorem dX4_foundLateness_26 : decode cX4_foundLateness 26 = .ok (.ireturn, 1) := by decide +kernel
theorem dX4_deviationFrom_0 : decode cX4_deviationFrom 0 = .ok (.iconst 0, 1) := by decide +kernel
theorem dX4_deviationFrom_1 : decode cX4_deviationFrom 1 = .ok (.istore_n 3, 1) := by decide +kernel
theorem dX4_deviationFrom_2 : decode cX4_deviationFrom 2 = .ok (.iconst 0, 1) := by decide +kernel
theorem dX4_deviationFrom_3 : decode cX4_deviationFrom 3 = .ok (.istore 4, 2) := by decide +kernel
theorem dX4_deviationFrom_5 : decode cX4_deviationFrom 5 = .ok (.iload 4, 2) := by decide +kernel
theorem dX4_deviationFrom_7 : decode cX4_deviationFrom 7 = .ok (.iconst 3, 1) := by decide +kernel
theorem dX4_deviationFrom_8 : decode cX4_deviationFrom 8 = .ok (.if_icmp .gt 24, 3) := by decide +kernel
theorem dX4_deviationFrom_11 : decode cX4_deviationFrom 11 = .ok (.iload_n 3, 1) := by decide +kernel
theorem dX4_deviationFrom_12 : decode cX4_deviationFrom 12 = .ok (.aload_n 0, 1) := by decide +kernel
theorem dX4_deviationFrom_13 : decode cX4_deviationFrom 13 = .ok (.aload_n 1, 1) := by decide +kernel
theorem dX4_deviationFrom_14 : decode cX4_deviationFrom 14 = .ok (.iload 4, 2) := by decide +kernel
theorem dX4_deviationFrom_16 : decode cX4_deviationFrom 16 = .ok (.invokevirtual 225, 3) := by decide +kernel
theorem dX4_deviationFrom_19 : decode cX4_deviationFrom 19 = .ok (.iload_n 2, 1) := by decide +kernel
theorem dX4_deviationFrom_20 : decode cX4_deviationFrom 20 = .ok (.isub, 1) := by decide +kernel
theorem dX4_deviationFrom_21 : decode cX4_deviationFrom 21 = .ok (.invokestatic 344, 3) := by decide +kernel
theorem dX4_deviationFrom_24 : decode cX4_deviationFrom 24 = .ok (.iadd, 1) := by decide +kernel
theorem dX4_deviationFrom_25 : decode cX4_deviationFrom 25 = .ok (.istore_n 3, 1) := by decide +kernel
theorem dX4_deviationFrom_26 : decode cX4_deviationFrom 26 = .ok (.iinc 4 1, 3) := by decide +kernel
theorem dX4_deviationFrom_29 : decode cX4_deviationFrom 29 = .ok (.goto (-24), 3) := by decide +kernel
theorem dX4_deviationFrom_32 : decode cX4_deviationFrom 32 = .ok (.iload_n 3, 1) := by decide +kernel
theorem dX4_deviationFrom_33 : decode cX4_deviationFrom 33 = .ok (.ireturn, 1) := by decide +kernel
theorem dX4_countCards_0 : decode cX4_countCards 0 = .ok (.iconst 0, 1) := by decide +kernel
theorem dX4_countCards_1 : decode cX4_countCards 1 = .ok (.istore_n 2, 1) := by decide +kernel
theorem dX4_countCards_2 : decode cX4_countCards 2 = .ok (.iconst 0, 1) := by decide +kernel
theorem dX4_countCards_3 : decode cX4_countCards 3 = .ok (.istore_n 3, 1) := by decide +kernel
theorem dX4_countCards_4 : decode cX4_countCards 4 = .ok (.iload_n 3, 1) := by decide +kernel
theorem dX4_countCards_5 : decode cX4_countCards 5 = .ok (.aload_n 0, 1) := by decide +kernel
theorem dX4_countCards_6 : decode cX4_countCards 6 = .ok (.getfield 35, 3) := by decide +kernel
theorem dX4_countCards_9 : decode cX4_countCards 9 = .ok (.getfield 151, 3) := by decide +kernel
theorem dX4_countCards_12 : decode cX4_countCards 12 = .ok (.if_icmp .ge 28, 3) := by decide +kernel
theorem dX4_countCards_15 : decode cX4_countCards 15 = .ok (.aload_n 0, 1) := by decide +kernel
theorem dX4_countCards_16 : decode cX4_countCards 16 = .ok (.getfield 35, 3) := by decide +kernel
theorem dX4_countCards_19 : decode cX4_countCards 19 = .ok (.getfield 192, 3) := by decide +kernel
theorem dX4_countCards_22 : decode cX4_countCards 22 = .ok (.iload_n 3, 1) := by decide +kernel
theorem dX4_countCards_23 : decode cX4_countCards 23 = .ok (.aaload, 1) := by decide +kernel
theorem dX4_countCards_24 : decode cX4_countCards 24 = .ok (.getfield 158, 3) := by decide +kernel
theorem dX4_countCards_27 : decode cX4_countCards 27 = .ok (.iload_n 1, 1) := by decide +kernel
theorem dX4_countCards_28 : decode cX4_countCards 28 = .ok (.if_icmp .ne 6, 3) := by decide +kernel
theorem dX4_countCards_31 : decode cX4_countCards 31 = .ok (.iinc 2 1, 3) := by decide +kernel
theorem dX4_countCards_34 : decode cX4_countCards 34 = .ok (.iinc 3 1, 3) := by decide +kernel
theorem dX4_countCards_37 : decode cX4_countCards 37 = .ok (.goto (-33), 3) := by decide +kernel
theorem dX4_countCards_40 : decode cX4_countCards 40 = .ok (.iload_n 2, 1) := by decide +kernel
theorem dX4_countCards_41 : decode cX4_countCards 41 = .ok (.ireturn, 1) := by decide +kernel
theorem dX4_drawMeanPressures_0 : decode cX4_drawMeanPressures 0 = .ok (.aload_n 0, 1) := by decide +kernel
theorem dX4_drawMeanPressures_1 : decode cX4_drawMeanPressures 1 = .ok (.iload_n 1, 1) := by decide +kernel
theorem dX4_drawMeanPressures_2 : decode cX4_drawMeanPressures 2 = .ok (.invokevirtual 237, 3) := by decide +kernel
theorem dX4_drawMeanPressures_5 : decode cX4_drawMeanPressures 5 = .ok (.istore_n 3, 1) := by decide +kernel
theorem dX4_drawMeanPressures_6 : decode cX4_drawMeanPressures 6 = .ok (.aload_n 0, 1) := by decide +kernel
theorem dX4_drawMeanPressures_7 : decode cX4_drawMeanPressures 7 = .ok (.getfield 10, 3) := by decide +kernel
theorem dX4_drawMeanPressures_10 : decode cX4_drawMeanPressures 10 = .ok (.iload_n 2, 1) := by decide +kernel
theorem dX4_drawMeanPressures_11 : decode cX4_drawMeanPressures 11 = .ok (.invokevirtual 196, 3) := by decide +kernel
theorem dX4_drawMeanPressures_14 : decode cX4_drawMeanPressures 14 = .ok (.astore 4, 2) := by decide +kernel
theorem dX4_drawMeanPressures_16 : decode cX4_drawMeanPressures 16 = .ok (.iconst 0, 1) := by decide +kernel
theorem dX4_drawMeanPressures_17 : decode cX4_drawMeanPressures 17 = .ok (.istore 5, 2) := by decide +kernel
theorem dX4_drawMeanPressures_19 : decode cX4_drawMeanPressures 19 = .ok (.iload 5, 2) := by decide +kernel
theorem dX4_drawMeanPressures_21 : decode cX4_drawMeanPressures 21 = .ok (.bipush 21, 2) := by decide +kernel
theorem dX4_drawMeanPressures_23 : decode cX4_drawMeanPressures 23 = .ok (.if_icmp .ge 83, 3) := by decide +kernel
theorem dX4_drawMeanPressures_26 : decode cX4_drawMeanPressures 26 = .ok (.iconst 0, 1) := by decide +kernel
theorem dX4_drawMeanPressures_27 : decode cX4_drawMeanPressures 27 = .ok (.istore 6, 2) := by decide +kernel
theorem dX4_drawMeanPressures_29 : decode cX4_drawMeanPressures 29 = .ok (.iconst 0, 1) := by decide +kernel
theorem dX4_drawMeanPressures_30 : decode cX4_drawMeanPressures 30 = .ok (.istore 7, 2) := by decide +kernel
theorem dX4_drawMeanPressures_32 : decode cX4_drawMeanPressures 32 = .ok (.iload 7, 2) := by decide +kernel
theorem dX4_drawMeanPressures_34 : decode cX4_drawMeanPressures 34 = .ok (.aload_n 0, 1) := by decide +kernel
theorem dX4_drawMeanPressures_35 : decode cX4_drawMeanPressures 35 = .ok (.getfield 35, 3) := by decide +kernel
theorem dX4_drawMeanPressures_38 : decode cX4_drawMeanPressures 38 = .ok (.getfield 151, 3) := by decide +kernel
theorem dX4_drawMeanPressures_41 : decode cX4_drawMeanPressures 41 = .ok (.if_icmp .ge 48, 3) := by decide +kernel
theorem dX4_drawMeanPressures_44 : decode cX4_drawMeanPressures 44 = .ok (.aload_n 0, 1) := by decide +kernel
theorem dX4_drawMeanPressures_45 : decode cX4_drawMeanPressures 45 = .ok (.getfield 35, 3) := by decide +kernel
theorem dX4_drawMeanPressures_48 : decode cX4_drawMeanPressures 48 = .ok (.getfield 192, 3) := by decide +kernel
theorem dX4_drawMeanPressures_51 : decode cX4_drawMeanPressures 51 = .ok (.iload 7, 2) := by decide +kernel
theorem dX4_drawMeanPressures_53 : decode cX4_drawMeanPressures 53 = .ok (.aaload, 1) := by decide +kernel
theorem dX4_drawMeanPressures_54 : decode cX4_drawMeanPressures 54 = .ok (.getfield 158, 3) := by decide +kernel
theorem dX4_drawMeanPressures_57 : decode cX4_drawMeanPressures 57 = .ok (.iload_n 1, 1) := by decide +kernel
theorem dX4_drawMeanPressures_58 : decode cX4_drawMeanPressures 58 = .ok (.if_icmp .ne 25, 3) := by decide +kernel
theorem dX4_drawMeanPressures_61 : decode cX4_drawMeanPressures 61 = .ok (.iload 6, 2) := by decide +kernel
theorem dX4_drawMeanPressures_63 : decode cX4_drawMeanPressures 63 = .ok (.aload_n 0, 1) := by decide +kernel
theorem dX4_drawMeanPressures_64 : decode cX4_drawMeanPressures 64 = .ok (.getfield 35, 3) := by decide +kernel
theorem dX4_drawMeanPressures_67 : decode cX4_drawMeanPressures 67 = .ok (.getfield 192, 3) := by decide +kernel
theorem dX4_drawMeanPressures_70 : decode cX4_drawMeanPressures 70 = .ok (.iload 7, 2) := by decide +kernel
theorem dX4_drawMeanPressures_72 : decode cX4_drawMeanPressures 72 = .ok (.aaload, 1) := by decide +kernel
theorem dX4_drawMeanPressures_73 : decode cX4_drawMeanPressures 73 = .ok (.iload_n 2, 1) := by decide +kernel
theorem dX4_drawMeanPressures_74 : decode cX4_drawMeanPressures 74 = .ok (.invokevirtual 196, 3) := by decide +kernel
theorem dX4_drawMeanPressures_77 : decode cX4_drawMeanPressures 77 = .ok (.iload 5, 2) := by decide +kernel
theorem dX4_drawMeanPressures_79 : decode cX4_drawMeanPressures 79 = .ok (.iaload, 1) := by decide +kernel
theorem dX4_drawMeanPressures_80 : decode cX4_drawMeanPressures 80 = .ok (.iadd, 1) := by decide +kernel
theorem dX4_drawMeanPressures_81 : decode cX4_drawMeanPressures 81 = .ok (.istore 6, 2) := by decide +kernel
theorem dX4_drawMeanPressures_83 : decode cX4_drawMeanPressures 83 = .ok (.iinc 7 1, 3) := by decide +kernel
theorem dX4_drawMeanPressures_86 : decode cX4_drawMeanPressures 86 = .ok (.goto (-54), 3) := by decide +kernel
theorem dX4_drawMeanPressures_89 : decode cX4_drawMeanPressures 89 = .ok (.aload 4, 2) := by decide +kernel
theorem dX4_drawMeanPressures_91 : decode cX4_drawMeanPressures 91 = .ok (.iload 5, 2) := by decide +kernel
theorem dX4_drawMeanPressures_93 : decode cX4_drawMeanPressures 93 = .ok (.iload 6, 2) := by decide +kernel
theorem dX4_drawMeanPressures_95 : decode cX4_drawMeanPressures 95 = .ok (.iload_n 3, 1) := by decide +kernel
theorem dX4_drawMeanPressures_96 : decode cX4_drawMeanPressures 96 = .ok (.invokestatic 212, 3) := by decide +kernel
theorem dX4_drawMeanPressures_99 : decode cX4_drawMeanPressures 99 = .ok (.iastore, 1) := by decide +kernel
theorem dX4_drawMeanPressures_100 : decode cX4_drawMeanPressures 100 = .ok (.iinc 5 1, 3) := by decide +kernel
theorem dX4_drawMeanPressures_103 : decode cX4_drawMeanPressures 103 = .ok (.goto (-84), 3) := by decide +kernel
theorem dX4_drawMeanPressures_106 : decode cX4_drawMeanPressures 106 = .ok (.return_, 1) := by decide +kernel
theorem dX4_meanOfPowers_0 : decode cX4_meanOfPowers 0 = .ok (.lconst 0, 1) := by decide +kernel
theorem dX4_meanOfPowers_1 : decode cX4_meanOfPowers 1 = .ok (.lstore_n 2, 1) := by decide +kernel
theorem dX4_meanOfPowers_2 : decode cX4_meanOfPowers 2 = .ok (.iconst 0, 1) := by decide +kernel
theorem dX4_meanOfPowers_3 : decode cX4_meanOfPowers 3 = .ok (.istore 4, 2) := by decide +kernel
theorem dX4_meanOfPowers_5 : decode cX4_meanOfPowers 5 = .ok (.iload 4, 2) := by decide +kernel
theorem dX4_meanOfPowers_7 : decode cX4_meanOfPowers 7 = .ok (.aload_n 0, 1) := by decide +kernel
theorem dX4_meanOfPowers_8 : decode cX4_meanOfPowers 8 = .ok (.getfield 35, 3) := by decide +kernel
theorem dX4_meanOfPowers_11 : decode cX4_meanOfPowers 11 = .ok (.getfield 151, 3) := by decide +kernel
theorem dX4_meanOfPowers_14 : decode cX4_meanOfPowers 14 = .ok (.if_icmp .ge 43, 3) := by decide +kernel
theorem dX4_meanOfPowers_17 : decode cX4_meanOfPowers 17 = .ok (.aload_n 0, 1) := by decide +kernel
theorem dX4_meanOfPowers_18 : decode cX4_meanOfPowers 18 = .ok (.getfield 35, 3) := by decide +kernel
theorem dX4_meanOfPowers_21 : decode cX4_meanOfPowers 21 = .ok (.getfield 192, 3) := by decide +kernel
theorem dX4_meanOfPowers_24 : decode cX4_meanOfPowers 24 = .ok (.iload 4, 2) := by decide +kernel
theorem dX4_meanOfPowers_26 : decode cX4_meanOfPowers 26 = .ok (.aaload, 1) := by decide +kernel
theorem dX4_meanOfPowers_27 : decode cX4_meanOfPowers 27 = .ok (.getfield 158, 3) := by decide +kernel
theorem dX4_meanOfPowers_30 : decode cX4_meanOfPowers 30 = .ok (.iload_n 1, 1) := by decide +kernel
theorem dX4_meanOfPowers_31 : decode cX4_meanOfPowers 31 = .ok (.if_icmp .ne 20, 3) := by decide +kernel
theorem dX4_meanOfPowers_34 : decode cX4_meanOfPowers 34 = .ok (.lload_n 2, 1) := by decide +kernel
theorem dX4_meanOfPowers_35 : decode cX4_meanOfPowers 35 = .ok (.aload_n 0, 1) := by decide +kernel
theorem dX4_meanOfPowers_36 : decode cX4_meanOfPowers 36 = .ok (.aload_n 0, 1) := by decide +kernel
theorem dX4_meanOfPowers_37 : decode cX4_meanOfPowers 37 = .ok (.getfield 35, 3) := by decide +kernel
theorem dX4_meanOfPowers_40 : decode cX4_meanOfPowers 40 = .ok (.getfield 192, 3) := by decide +kernel
theorem dX4_meanOfPowers_43 : decode cX4_meanOfPowers 43 = .ok (.iload 4, 2) := by decide +kernel
theorem dX4_meanOfPowers_45 : decode cX4_meanOfPowers 45 = .ok (.aaload, 1) := by decide +kernel
theorem dX4_meanOfPowers_46 : decode cX4_meanOfPowers 46 = .ok (.invokevirtual 216, 3) := by decide +kernel
theorem dX4_meanOfPowers_49 : decode cX4_meanOfPowers 49 = .ok (.ladd, 1) := by decide +kernel
theorem dX4_meanOfPowers_50 : decode cX4_meanOfPowers 50 = .ok (.lstore_n 2, 1) := by decide +kernel
theorem dX4_meanOfPowers_51 : decode cX4_meanOfPowers 51 = .ok (.iinc 4 1, 3) := by decide +kernel
theorem dX4_meanOfPowers_54 : decode cX4_meanOfPowers 54 = .ok (.goto (-49), 3) := by decide +kernel
theorem dX4_meanOfPowers_57 : decode cX4_meanOfPowers 57 = .ok (.lload_n 2, 1) := by decide +kernel
theorem dX4_meanOfPowers_58 : decode cX4_meanOfPowers 58 = .ok (.aload_n 0, 1) := by decide +kernel
theorem dX4_meanOfPowers_59 : decode cX4_meanOfPowers 59 = .ok (.iload_n 1, 1) := by decide +kernel
theorem dX4_meanOfPowers_60 : decode cX4_meanOfPowers 60 = .ok (.invokevirtual 237, 3) := by decide +kernel
theorem dX4_meanOfPowers_63 : decode cX4_meanOfPowers 63 = .ok (.i2l, 1) := by decide +kernel
theorem dX4_meanOfPowers_64 : decode cX4_meanOfPowers 64 = .ok (.invokestatic 257, 3) := by decide +kernel
theorem dX4_meanOfPowers_67 : decode cX4_meanOfPowers 67 = .ok (.lreturn, 1) := by decide +kernel
theorem dX4_medianArea_0 : decode cX4_medianArea 0 = .ok (.iconst 0, 1) := by decide +kernel
theorem dX4_medianArea_1 : decode cX4_medianArea 1 = .ok (.istore_n 2, 1) := by decide +kernel
theorem dX4_medianArea_2 : decode cX4_medianArea 2 = .ok (.iconst 0, 1) := by decide +kernel
theorem dX4_medianArea_3 : decode cX4_medianArea 3 = .ok (.istore_n 3, 1) := by decide +kernel
theorem dX4_medianArea_4 : decode cX4_medianArea 4 = .ok (.iload_n 3, 1) := by decide +kernel
theorem dX4_medianArea_5 : decode cX4_medianArea 5 = .ok (.aload_n 0, 1) := by decide +kernel
theorem dX4_medianArea_6 : decode cX4_medianArea 6 = .ok (.getfield 35, 3) := by decide +kernel
theorem dX4_medianArea_9 : decode cX4_medianArea 9 = .ok (.getfield 151, 3) := by decide +kernel
theorem dX4_medianArea_12 : decode cX4_medianArea 12 = .ok (.if_icmp .ge 45, 3) := by decide +kernel
theorem dX4_medianArea_15 : decode cX4_medianArea 15 = .ok (.aload_n 0, 1) := by decide +kernel
theorem dX4_medianArea_16 : decode cX4_medianArea 16 = .ok (.getfield 35, 3) := by decide +kernel
theorem dX4_medianArea_19 : decode cX4_medianArea 19 = .ok (.getfield 192, 3) := by decide +kernel
theorem dX4_medianArea_22 : decode cX4_medianArea 22 = .ok (.iload_n 3, 1) := by decide +kernel
theorem dX4_medianArea_23 : decode cX4_medianArea 23 = .ok (.aaload, 1) := by decide +kernel
theorem dX4_medianArea_24 : decode cX4_medianArea 24 = .ok (.getfield 158, 3) := by decide +kernel
theorem dX4_medianArea_27 : decode cX4_medianArea 27 = .ok (.iload_n 1, 1) := by decide +kernel
theorem dX4_medianArea_28 : decode cX4_medianArea 28 = .ok (.if_icmp .ne 23, 3) := by decide +kernel
theorem dX4_medianArea_31 : decode cX4_medianArea 31 = .ok (.aload_n 0, 1) := by decide +kernel
theorem dX4_medianArea_32 : decode cX4_medianArea 32 = .ok (.aload_n 0, 1) := by decide +kernel
theorem dX4_medianArea_33 : decode cX4_medianArea 33 = .ok (.getfield 35, 3) := by decide +kernel
theorem dX4_medianArea_36 : decode cX4_medianArea 36 = .ok (.getfield 192, 3) := by decide +kernel
theorem dX4_medianArea_39 : decode cX4_medianArea 39 = .ok (.iload_n 3, 1) := by decide +kernel
theorem dX4_medianArea_40 : decode cX4_medianArea 40 = .ok (.aaload, 1) := by decide +kernel
theorem dX4_medianArea_41 : decode cX4_medianArea 41 = .ok (.invokevirtual 199, 3) := by decide +kernel
theorem dX4_medianArea_44 : decode cX4_medianArea 44 = .ok (.iload_n 2, 1) := by decide +kernel
theorem dX4_medianArea_45 : decode cX4_medianArea 45 = .ok (.invokevirtual 346, 3) := by decide +kernel
theorem dX4_medianArea_48 : decode cX4_medianArea 48 = .ok (.iinc 2 1, 3) := by decide +kernel
theorem dX4_medianArea_51 : decode cX4_medianArea 51 = .ok (.iinc 3 1, 3) := by decide +kernel
theorem dX4_medianArea_54 : decode cX4_medianArea 54 = .ok (.goto (-50), 3) := by decide +kernel
theorem dX4_medianArea_57 : decode cX4_medianArea 57 = .ok (.iload_n 2, 1) := by decide +kernel
theorem dX4_medianArea_58 : decode cX4_medianArea 58 = .ok (.ifCond .ne 7, 3) := by decide +kernel
theorem dX4_medianArea_61 : decode cX4_medianArea 61 = .ok (.iconst 0, 1) := by decide +kernel
theorem dX4_medianArea_62 : decode cX4_medianArea 62 = .ok (.goto 13, 3) := by decide +kernel
theorem dX4_medianArea_65 : decode cX4_medianArea 65 = .ok (.aload_n 0, 1) := by decide +kernel
theorem dX4_medianArea_66 : decode cX4_medianArea 66 = .ok (.getfield 26, 3) := by decide +kernel
theorem dX4_medianArea_69 : decode cX4_medianArea 69 = .ok (.iload_n 2, 1) := by decide +kernel
theorem dX4_medianArea_70 : decode cX4_medianArea 70 = .ok (.iconst 1, 1) := by decide +kernel
theorem dX4_medianArea_71 : decode cX4_medianArea 71 = .ok (.isub, 1) := by decide +kernel
theorem dX4_medianArea_72 : decode cX4_medianArea 72 = .ok (.iconst 2, 1) := by decide +kernel
theorem dX4_medianArea_73 : decode cX4_medianArea 73 = .ok (.idiv, 1) := by decide +kernel
theorem dX4_medianArea_74 : decode cX4_medianArea 74 = .ok (.iaload, 1) := by decide +kernel
theorem dX4_medianArea_75 : decode cX4_medianArea 75 = .ok (.ireturn, 1) := by decide +kernel
theorem dX4_insertSorted_0 : decode cX4_insertSorted 0 = .ok (.iload_n 2, 1) := by decide +kernel
theorem dX4_insertSorted_1 : decode cX4_insertSorted 1 = .ok (.istore_n 3, 1) := by decide +kernel
theorem dX4_insertSorted_2 : decode cX4_insertSorted 2 = .ok (.iload_n 3, 1) := by decide +kernel
theorem dX4_insertSorted_3 : decode cX4_insertSorted 3 = .ok (.ifCond .le 35, 3) := by decide +kernel
theorem dX4_insertSorted_6 : decode cX4_insertSorted 6 = .ok (.aload_n 0, 1) := by decide +kernel
theorem dX4_insertSorted_7 : decode cX4_insertSorted 7 = .ok (.getfield 26, 3) := by decide +kernel
theorem dX4_insertSorted_10 : decode cX4_insertSorted 10 = .ok (.iload_n 3, 1) := by decide +kernel
theorem dX4_insertSorted_11 : decode cX4_insertSorted 11 = .ok (.iconst 1, 1) := by decide +kernel
theorem dX4_insertSorted_12 : decode cX4_insertSorted 12 = .ok (.isub, 1) := by decide +kernel
theorem dX4_insertSorted_13 : decode cX4_insertSorted 13 = .ok (.iaload, 1) := by decide +kernel
theorem dX4_insertSorted_14 : decode cX4_insertSorted 14 = .ok (.iload_n 1, 1) := by decide +kernel
theorem dX4_insertSorted_15 : decode cX4_insertSorted 15 = .ok (.if_icmp .le 23, 3) := by decide +kernel
theorem dX4_insertSorted_18 : decode cX4_insertSorted 18 = .ok (.aload_n 0, 1) := by decide +kernel
theorem dX4_insertSorted_19 : decode cX4_insertSorted 19 = .ok (.getfield 26, 3) := by decide +kernel
theorem dX4_insertSorted_22 : decode cX4_insertSorted 22 = .ok (.iload_n 3, 1) := by decide +kernel
theorem dX4_insertSorted_23 : decode cX4_insertSorted 23 = .ok (.aload_n 0, 1) := by decide +kernel
theorem dX4_insertSorted_24 : decode cX4_insertSorted 24 = .ok (.getfield 26, 3) := by decide +kernel
theorem dX4_insertSorted_27 : decode cX4_insertSorted 27 = .ok (.iload_n 3, 1) := by decide +kernel
theorem dX4_insertSorted_28 : decode cX4_insertSorted 28 = .ok (.iconst 1, 1) := by decide +kernel
theorem dX4_insertSorted_29 : decode cX4_insertSorted 29 = .ok (.isub, 1) := by decide +kernel
theorem dX4_insertSorted_30 : decode cX4_insertSorted 30 = .ok (.iaload, 1) := by decide +kernel
theorem dX4_insertSorted_31 : decode cX4_insertSorted 31 = .ok (.iastore, 1) := by decide +kernel
theorem dX4_insertSorted_32 : decode cX4_insertSorted 32 = .ok (.iinc 3 (-1), 3) := by decide +kernel
theorem dX4_insertSorted_35 : decode cX4_insertSorted 35 = .ok (.goto (-33), 3) := by decide +kernel
theorem dX4_insertSorted_38 : decode cX4_insertSorted 38 = .ok (.aload_n 0, 1) := by decide +kernel
theorem dX4_insertSorted_39 : decode cX4_insertSorted 39 = .ok (.getfield 26, 3) := by decide +kernel
theorem dX4_insertSorted_42 : decode cX4_insertSorted 42 = .ok (.iload_n 3, 1) := by decide +kernel
theorem dX4_insertSorted_43 : decode cX4_insertSorted 43 = .ok (.iload_n 1, 1) := by decide +kernel
theorem dX4_insertSorted_44 : decode cX4_insertSorted 44 = .ok (.iastore, 1) := by decide +kernel
theorem dX4_insertSorted_45 : decode cX4_insertSorted 45 = .ok (.return_, 1) := by decide +kernel
theorem dX4_isOutlier_0 : decode cX4_isOutlier 0 = .ok (.aload_n 0, 1) := by decide +kernel
theorem dX4_isOutlier_1 : decode cX4_isOutlier 1 = .ok (.invokevirtual 199, 3) := by decide +kernel
theorem dX4_isOutlier_4 : decode cX4_isOutlier 4 = .ok (.iload_n 1, 1) := by decide +kernel
theorem dX4_isOutlier_5 : decode cX4_isOutlier 5 = .ok (.isub, 1) := by decide +kernel
theorem dX4_isOutlier_6 : decode cX4_isOutlier 6 = .ok (.invokestatic 344, 3) := by decide +kernel
theorem dX4_isOutlier_9 : decode cX4_isOutlier 9 = .ok (.bipush 100, 2) := by decide +kernel
theorem dX4_isOutlier_11 : decode cX4_isOutlier 11 = .ok (.imul, 1) := by decide +kernel
theorem dX4_isOutlier_12 : decode cX4_isOutlier 12 = .ok (.iload_n 2, 1) := by decide +kernel
theorem dX4_isOutlier_13 : decode cX4_isOutlier 13 = .ok (.iload_n 1, 1) := by decide +kernel
theorem dX4_isOutlier_14 : decode cX4_isOutlier 14 = .ok (.invokestatic 344, 3) := by decide +kernel
theorem dX4_isOutlier_17 : decode cX4_isOutlier 17 = .ok (.imul, 1) := by decide +kernel
theorem dX4_isOutlier_18 : decode cX4_isOutlier 18 = .ok (.if_icmp .le 7, 3) := by decide +kernel
theorem dX4_isOutlier_21 : decode cX4_isOutlier 21 = .ok (.iconst 1, 1) := by decide +kernel
theorem dX4_isOutlier_22 : decode cX4_isOutlier 22 = .ok (.goto 4, 3) := by decide +kernel
theorem dX4_isOutlier_25 : decode cX4_isOutlier 25 = .ok (.iconst 0, 1) := by decide +kernel
theorem dX4_isOutlier_26 : decode cX4_isOutlier 26 = .ok (.ireturn, 1) := by decide +kernel
