theorem dX5_init_0 : decode cX5_init 0 = .ok (.aload_n 0, 1) := by decide +kernel
theorem dX5_init_1 : decode cX5_init 1 = .ok (.invokespecial 1, 3) := by decide +kernel
theorem dX5_init_4 : decode cX5_init 4 = .ok (.aload_n 0, 1) := by decide +kernel
theorem dX5_init_5 : decode cX5_init 5 = .ok (.sipush 2552, 3) := by decide +kernel
theorem dX5_init_8 : decode cX5_init 8 = .ok (.newarray .int, 2) := by decide +kernel
theorem dX5_init_10 : decode cX5_init 10 = .ok (.putfield 7, 3) := by decide +kernel
theorem dX5_init_13 : decode cX5_init 13 = .ok (.aload_n 0, 1) := by decide +kernel
theorem dX5_init_14 : decode cX5_init 14 = .ok (.getfield 7, 3) := by decide +kernel
theorem dX5_init_17 : decode cX5_init 17 = .ok (.iconst 0, 1) := by decide +kernel
theorem dX5_init_18 : decode cX5_init 18 = .ok (.iconst 2, 1) := by decide +kernel
theorem dX5_init_19 : decode cX5_init 19 = .ok (.iastore, 1) := by decide +kernel
theorem dX5_init_20 : decode cX5_init 20 = .ok (.aload_n 0, 1) := by decide +kernel
theorem dX5_init_21 : decode cX5_init 21 = .ok (.getfield 7, 3) := by decide +kernel
theorem dX5_init_24 : decode cX5_init 24 = .ok (.iconst 1, 1) := by decide +kernel
theorem dX5_init_25 : decode cX5_init 25 = .ok (.sipush 1000, 3) := by decide +kernel
theorem dX5_init_28 : decode cX5_init 28 = .ok (.iastore, 1) := by decide +kernel
theorem dX5_init_29 : decode cX5_init 29 = .ok (.aload_n 0, 1) := by decide +kernel
theorem dX5_init_30 : decode cX5_init 30 = .ok (.getfield 7, 3) := by decide +kernel
theorem dX5_init_33 : decode cX5_init 33 = .ok (.iconst 2, 1) := by decide +kernel
theorem dX5_init_34 : decode cX5_init 34 = .ok (.sipush 900, 3) := by decide +kernel
theorem dX5_init_37 : decode cX5_init 37 = .ok (.iastore, 1) := by decide +kernel
theorem dX5_init_38 : decode cX5_init 38 = .ok (.aload_n 0, 1) := by decide +kernel
theorem dX5_init_39 : decode cX5_init 39 = .ok (.getfield 7, 3) := by decide +kernel
theorem dX5_init_42 : decode cX5_init 42 = .ok (.iconst 3, 1) := by decide +kernel
theorem dX5_init_43 : decode cX5_init 43 = .ok (.bipush 60, 2) := by decide +kernel
theorem dX5_init_45 : decode cX5_init 45 = .ok (.iastore, 1) := by decide +kernel
theorem dX5_init_46 : decode cX5_init 46 = .ok (.aload_n 0, 1) := by decide +kernel
theorem dX5_init_47 : decode cX5_init 47 = .ok (.getfield 7, 3) := by decide +kernel
theorem dX5_init_50 : decode cX5_init 50 = .ok (.iconst 4, 1) := by decide +kernel
theorem dX5_init_51 : decode cX5_init 51 = .ok (.sipush 800, 3) := by decide +kernel
theorem dX5_init_54 : decode cX5_init 54 = .ok (.iastore, 1) := by decide +kernel
theorem dX5_init_55 : decode cX5_init 55 = .ok (.aload_n 0, 1) := by decide +kernel
theorem dX5_init_56 : decode cX5_init 56 = .ok (.getfield 7, 3) := by decide +kernel
theorem dX5_init_59 : decode cX5_init 59 = .ok (.iconst 5, 1) := by decide +kernel
theorem dX5_init_60 : decode cX5_init 60 = .ok (.bipush 50, 2) := by decide +kernel
theorem dX5_init_62 : decode cX5_init 62 = .ok (.iastore, 1) := by decide +kernel
theorem dX5_init_63 : decode cX5_init 63 = .ok (.aload_n 0, 1) := by decide +kernel
theorem dX5_init_64 : decode cX5_init 64 = .ok (.getfield 7, 3) := by decide +kernel
theorem dX5_init_67 : decode cX5_init 67 = .ok (.bipush 6, 2) := by decide +kernel
theorem dX5_init_69 : decode cX5_init 69 = .ok (.bipush 10, 2) := by decide +kernel
theorem dX5_init_71 : decode cX5_init 71 = .ok (.iastore, 1) := by decide +kernel
theorem dX5_init_72 : decode cX5_init 72 = .ok (.aload_n 0, 1) := by decide +kernel
theorem dX5_init_73 : decode cX5_init 73 = .ok (.getfield 7, 3) := by decide +kernel
theorem dX5_init_76 : decode cX5_init 76 = .ok (.bipush 7, 2) := by decide +kernel
theorem dX5_init_78 : decode cX5_init 78 = .ok (.iconst 5, 1) := by decide +kernel
theorem dX5_init_79 : decode cX5_init 79 = .ok (.iastore, 1) := by decide +kernel
theorem dX5_init_80 : decode cX5_init 80 = .ok (.iconst 0, 1) := by decide +kernel
theorem dX5_init_81 : decode cX5_init 81 = .ok (.istore_n 1, 1) := by decide +kernel
theorem dX5_init_82 : decode cX5_init 82 = .ok (.iload_n 1, 1) := by decide +kernel
theorem dX5_init_83 : decode cX5_init 83 = .ok (.iconst 2, 1) := by decide +kernel
theorem dX5_init_84 : decode cX5_init 84 = .ok (.if_icmp .ge 53, 3) := by decide +kernel
theorem dX5_init_87 : decode cX5_init 87 = .ok (.aload_n 0, 1) := by decide +kernel
theorem dX5_init_88 : decode cX5_init 88 = .ok (.getfield 7, 3) := by decide +kernel
theorem dX5_init_91 : decode cX5_init 91 = .ok (.bipush 8, 2) := by decide +kernel
theorem dX5_init_93 : decode cX5_init 93 = .ok (.iconst 4, 1) := by decide +kernel
theorem dX5_init_94 : decode cX5_init 94 = .ok (.iload_n 1, 1) := by decide +kernel
theorem dX5_init_95 : decode cX5_init 95 = .ok (.imul, 1) := by decide +kernel
theorem dX5_init_96 : decode cX5_init 96 = .ok (.iadd, 1) := by decide +kernel
theorem dX5_init_97 : decode cX5_init 97 = .ok (.iconst 1, 1) := by decide +kernel
theorem dX5_init_98 : decode cX5_init 98 = .ok (.iadd, 1) := by decide +kernel
theorem dX5_init_99 : decode cX5_init 99 = .ok (.bipush 8, 2) := by decide +kernel
theorem dX5_init_101 : decode cX5_init 101 = .ok (.iastore, 1) := by decide +kernel
theorem dX5_init_102 : decode cX5_init 102 = .ok (.aload_n 0, 1) := by decide +kernel
theorem dX5_init_103 : decode cX5_init 103 = .ok (.getfield 7, 3) := by decide +kernel
theorem dX5_init_106 : decode cX5_init 106 = .ok (.bipush 8, 2) := by decide +kernel
theorem dX5_init_108 : decode cX5_init 108 = .ok (.iconst 4, 1) := by decide +kernel
theorem dX5_init_109 : decode cX5_init 109 = .ok (.iload_n 1, 1) := by decide +kernel
theorem dX5_init_110 : decode cX5_init 110 = .ok (.imul, 1) := by decide +kernel
theorem dX5_init_111 : decode cX5_init 111 = .ok (.iadd, 1) := by decide +kernel
theorem dX5_init_112 : decode cX5_init 112 = .ok (.iconst 2, 1) := by decide +kernel
theorem dX5_init_113 : decode cX5_init 113 = .ok (.iadd, 1) := by decide +kernel
theorem dX5_init_114 : decode cX5_init 114 = .ok (.bipush 18, 2) := by decide +kernel
theorem dX5_init_116 : decode cX5_init 116 = .ok (.iastore, 1) := by decide +kernel
theorem dX5_init_117 : decode cX5_init 117 = .ok (.aload_n 0, 1) := by decide +kernel
theorem dX5_init_118 : decode cX5_init 118 = .ok (.getfield 7, 3) := by decide +kernel
theorem dX5_init_121 : decode cX5_init 121 = .ok (.bipush 8, 2) := by decide +kernel
theorem dX5_init_123 : decode cX5_init 123 = .ok (.iconst 4, 1) := by decide +kernel
theorem dX5_init_124 : decode cX5_init 124 = .ok (.iload_n 1, 1) := by decide +kernel
theorem dX5_init_125 : decode cX5_init 125 = .ok (.imul, 1) := by decide +kernel
theorem dX5_init_126 : decode cX5_init 126 = .ok (.iadd, 1) := by decide +kernel
theorem dX5_init_127 : decode cX5_init 127 = .ok (.iconst 3, 1) := by decide +kernel
theorem dX5_init_128 : decode cX5_init 128 = .ok (.iadd, 1) := by decide +kernel
theorem dX5_init_129 : decode cX5_init 129 = .ok (.iconst 4, 1) := by decide +kernel
theorem dX5_init_130 : decode cX5_init 130 = .ok (.iastore, 1) := by decide +kernel
theorem dX5_init_131 : decode cX5_init 131 = .ok (.iinc 1 1, 3) := by decide +kernel
theorem dX5_init_134 : decode cX5_init 134 = .ok (.goto (-52), 3) := by decide +kernel
theorem dX5_init_137 : decode cX5_init 137 = .ok (.return_, 1) := by decide +kernel
theorem dX5_in_0 : decode cX5_in 0 = .ok (.iload_n 0, 1) := by decide +kernel
theorem dX5_in_1 : decode cX5_in 1 = .ok (.iload_n 1, 1) := by decide +kernel
theorem dX5_in_2 : decode cX5_in 2 = .ok (.if_icmp .lt 12, 3) := by decide +kernel
theorem dX5_in_5 : decode cX5_in 5 = .ok (.iload_n 0, 1) := by decide +kernel
theorem dX5_in_6 : decode cX5_in 6 = .ok (.iload_n 2, 1) := by decide +kernel
theorem dX5_in_7 : decode cX5_in 7 = .ok (.if_icmp .gt 7, 3) := by decide +kernel
theorem dX5_in_10 : decode cX5_in 10 = .ok (.iconst 1, 1) := by decide +kernel
theorem dX5_in_11 : decode cX5_in 11 = .ok (.goto 4, 3) := by decide +kernel
theorem dX5_in_14 : decode cX5_in 14 = .ok (.iconst 0, 1) := by decide +kernel
theorem dX5_in_15 : decode cX5_in 15 = .ok (.ireturn, 1) := by decide +kernel
theorem dX5_isEnd_0 : decode cX5_isEnd 0 = .ok (.iload_n 0, 1) := by decide +kernel
theorem dX5_isEnd_1 : decode cX5_isEnd 1 = .ok (.iconst 0, 1) := by decide +kernel
theorem dX5_isEnd_2 : decode cX5_isEnd 2 = .ok (.iconst 1, 1) := by decide +kernel
theorem dX5_isEnd_3 : decode cX5_isEnd 3 = .ok (.invokestatic 13, 3) := by decide +kernel
theorem dX5_isEnd_6 : decode cX5_isEnd 6 = .ok (.ireturn, 1) := by decide +kernel
theorem dX5_quotient_0 : decode cX5_quotient 0 = .ok (.lload_n 0, 1) := by decide +kernel
theorem dX5_quotient_1 : decode cX5_quotient 1 = .ok (.lload_n 2, 1) := by decide +kernel
theorem dX5_quotient_2 : decode cX5_quotient 2 = .ok (.ldiv, 1) := by decide +kernel
theorem dX5_quotient_3 : decode cX5_quotient 3 = .ok (.lload_n 0, 1) := by decide +kernel
theorem dX5_quotient_4 : decode cX5_quotient 4 = .ok (.lload_n 2, 1) := by decide +kernel
theorem dX5_quotient_5 : decode cX5_quotient 5 = .ok (.lrem, 1) := by decide +kernel
theorem dX5_quotient_6 : decode cX5_quotient 6 = .ok (.lconst 0, 1) := by decide +kernel
theorem dX5_quotient_7 : decode cX5_quotient 7 = .ok (.lcmp, 1) := by decide +kernel
theorem dX5_quotient_8 : decode cX5_quotient 8 = .ok (.ifCond .ge 7, 3) := by decide +kernel
theorem dX5_quotient_11 : decode cX5_quotient 11 = .ok (.lconst 1, 1) := by decide +kernel
theorem dX5_quotient_12 : decode cX5_quotient 12 = .ok (.goto 4, 3) := by decide +kernel
theorem dX5_quotient_15 : decode cX5_quotient 15 = .ok (.lconst 0, 1) := by decide +kernel
theorem dX5_quotient_16 : decode cX5_quotient 16 = .ok (.lsub, 1) := by decide +kernel
theorem dX5_quotient_17 : decode cX5_quotient 17 = .ok (.lreturn, 1) := by decide +kernel
theorem dX5_size_0 : decode cX5_size 0 = .ok (.iload_n 0, 1) := by decide +kernel
theorem dX5_size_1 : decode cX5_size 1 = .ok (.ifCond .ge 8, 3) := by decide +kernel
theorem dX5_size_4 : decode cX5_size 4 = .ok (.iload_n 0, 1) := by decide +kernel
theorem dX5_size_5 : decode cX5_size 5 = .ok (.ineg, 1) := by decide +kernel
theorem dX5_size_6 : decode cX5_size 6 = .ok (.goto 4, 3) := by decide +kernel
theorem dX5_size_9 : decode cX5_size 9 = .ok (.iload_n 0, 1) := by decide +kernel
theorem dX5_size_10 : decode cX5_size 10 = .ok (.ireturn, 1) := by decide +kernel
theorem dX5_copy_0 : decode cX5_copy 0 = .ok (.iconst 0, 1) := by decide +kernel
theorem dX5_copy_1 : decode cX5_copy 1 = .ok (.istore_n 3, 1) := by decide +kernel
theorem dX5_copy_2 : decode cX5_copy 2 = .ok (.iload_n 3, 1) := by decide +kernel
theorem dX5_copy_3 : decode cX5_copy 3 = .ok (.sipush 502, 3) := by decide +kernel
theorem dX5_copy_6 : decode cX5_copy 6 = .ok (.if_icmp .ge 25, 3) := by decide +kernel
theorem dX5_copy_9 : decode cX5_copy 9 = .ok (.aload_n 0, 1) := by decide +kernel
theorem dX5_copy_10 : decode cX5_copy 10 = .ok (.getfield 7, 3) := by decide +kernel
theorem dX5_copy_13 : decode cX5_copy 13 = .ok (.iload_n 2, 1) := by decide +kernel
theorem dX5_copy_14 : decode cX5_copy 14 = .ok (.iload_n 3, 1) := by decide +kernel
theorem dX5_copy_15 : decode cX5_copy 15 = .ok (.iadd, 1) := by decide +kernel
theorem dX5_copy_16 : decode cX5_copy 16 = .ok (.aload_n 0, 1) := by decide +kernel
theorem dX5_copy_17 : decode cX5_copy 17 = .ok (.getfield 7, 3) := by decide +kernel
theorem dX5_copy_20 : decode cX5_copy 20 = .ok (.iload_n 1, 1) := by decide +kernel
theorem dX5_copy_21 : decode cX5_copy 21 = .ok (.iload_n 3, 1) := by decide +kernel
theorem dX5_copy_22 : decode cX5_copy 22 = .ok (.iadd, 1) := by decide +kernel
theorem dX5_copy_23 : decode cX5_copy 23 = .ok (.iaload, 1) := by decide +kernel
theorem dX5_copy_24 : decode cX5_copy 24 = .ok (.iastore, 1) := by decide +kernel
theorem dX5_copy_25 : decode cX5_copy 25 = .ok (.iinc 3 1, 3) := by decide +kernel
theorem dX5_copy_28 : decode cX5_copy 28 = .ok (.goto (-26), 3) := by decide +kernel
theorem dX5_copy_31 : decode cX5_copy 31 = .ok (.return_, 1) := by decide +kernel
theorem dX5_record_0 : decode cX5_record 0 = .ok (.aload_n 0, 1) := by decide +kernel
theorem dX5_record_1 : decode cX5_record 1 = .ok (.getfield 17, 3) := by decide +kernel
theorem dX5_record_4 : decode cX5_record 4 = .ok (.iconst 4, 1) := by decide +kernel
theorem dX5_record_5 : decode cX5_record 5 = .ok (.if_icmp .ne 44, 3) := by decide +kernel
theorem dX5_record_8 : decode cX5_record 8 = .ok (.iconst 1, 1) := by decide +kernel
theorem dX5_record_9 : decode cX5_record 9 = .ok (.istore_n 1, 1) := by decide +kernel
theorem dX5_record_10 : decode cX5_record 10 = .ok (.iload_n 1, 1) := by decide +kernel
theorem dX5_record_11 : decode cX5_record 11 = .ok (.iconst 4, 1) := by decide +kernel
theorem dX5_record_12 : decode cX5_record 12 = .ok (.if_icmp .ge 27, 3) := by decide +kernel
theorem dX5_record_15 : decode cX5_record 15 = .ok (.aload_n 0, 1) := by decide +kernel
theorem dX5_record_16 : decode cX5_record 16 = .ok (.sipush 502, 3) := by decide +kernel
theorem dX5_record_19 : decode cX5_record 19 = .ok (.sipush 502, 3) := by decide +kernel
theorem dX5_record_22 : decode cX5_record 22 = .ok (.iload_n 1, 1) := by decide +kernel
theorem dX5_record_23 : decode cX5_record 23 = .ok (.imul, 1) := by decide +kernel
theorem dX5_record_24 : decode cX5_record 24 = .ok (.iadd, 1) := by decide +kernel
theorem dX5_record_25 : decode cX5_record 25 = .ok (.sipush 502, 3) := by decide +kernel
theorem dX5_record_28 : decode cX5_record 28 = .ok (.iload_n 1, 1) := by decide +kernel
theorem dX5_record_29 : decode cX5_record 29 = .ok (.imul, 1) := by decide +kernel
theorem dX5_record_30 : decode cX5_record 30 = .ok (.invokevirtual 21, 3) := by decide +kernel
theorem dX5_record_33 : decode cX5_record 33 = .ok (.iinc 1 1, 3) := by decide +kernel
theorem dX5_record_36 : decode cX5_record 36 = .ok (.goto (-26), 3) := by decide +kernel
theorem dX5_record_39 : decode cX5_record 39 = .ok (.aload_n 0, 1) := by decide +kernel
theorem dX5_record_40 : decode cX5_record 40 = .ok (.dup, 1) := by decide +kernel
theorem dX5_record_41 : decode cX5_record 41 = .ok (.getfield 17, 3) := by decide +kernel
theorem dX5_record_44 : decode cX5_record 44 = .ok (.iconst 1, 1) := by decide +kernel
theorem dX5_record_45 : decode cX5_record 45 = .ok (.isub, 1) := by decide +kernel
theorem dX5_record_46 : decode cX5_record 46 = .ok (.putfield 17, 3) := by decide +kernel
theorem dX5_record_49 : decode cX5_record 49 = .ok (.aload_n 0, 1) := by decide +kernel
theorem dX5_record_50 : decode cX5_record 50 = .ok (.iconst 0, 1) := by decide +kernel
theorem dX5_record_51 : decode cX5_record 51 = .ok (.sipush 502, 3) := by decide +kernel
theorem dX5_record_54 : decode cX5_record 54 = .ok (.sipush 502, 3) := by decide +kernel
theorem dX5_record_57 : decode cX5_record 57 = .ok (.aload_n 0, 1) := by decide +kernel
theorem dX5_record_58 : decode cX5_record 58 = .ok (.getfield 17, 3) := by decide +kernel
theorem dX5_record_61 : decode cX5_record 61 = .ok (.imul, 1) := by decide +kernel
theorem dX5_record_62 : decode cX5_record 62 = .ok (.iadd, 1) := by decide +kernel
theorem dX5_record_63 : decode cX5_record 63 = .ok (.invokevirtual 21, 3) := by decide +kernel
theorem dX5_record_66 : decode cX5_record 66 = .ok (.aload_n 0, 1) := by decide +kernel
theorem dX5_record_67 : decode cX5_record 67 = .ok (.dup, 1) := by decide +kernel
theorem dX5_record_68 : decode cX5_record 68 = .ok (.getfield 17, 3) := by decide +kernel
theorem dX5_record_71 : decode cX5_record 71 = .ok (.iconst 1, 1) := by decide +kernel
theorem dX5_record_72 : decode cX5_record 72 = .ok (.iadd, 1) := by decide +kernel
theorem dX5_record_73 : decode cX5_record 73 = .ok (.putfield 17, 3) := by decide +kernel
theorem dX5_record_76 : decode cX5_record 76 = .ok (.return_, 1) := by decide +kernel
theorem dX5_historySize_0 : decode cX5_historySize 0 = .ok (.aload_n 0, 1) := by decide +kernel
theorem dX5_historySize_1 : decode cX5_historySize 1 = .ok (.getfield 17, 3) := by decide +kernel
theorem dX5_historySize_4 : decode cX5_historySize 4 = .ok (.ireturn, 1) := by decide +kernel
theorem dX5_undo_0 : decode cX5_undo 0 = .ok (.aload_n 0, 1) := by decide +kernel
theorem dX5_undo_1 : decode cX5_undo 1 = .ok (.getfield 17, 3) := by decide +kernel
theorem dX5_undo_4 : decode cX5_undo 4 = .ok (.ifCond .ne 6, 3) := by decide +kernel
theorem dX5_undo_7 : decode cX5_undo 7 = .ok (.ldc 25, 2) := by decide +kernel
theorem dX5_undo_9 : decode cX5_undo 9 = .ok (.ireturn, 1) := by decide +kernel
theorem dX5_undo_10 : decode cX5_undo 10 = .ok (.aload_n 0, 1) := by decide +kernel
theorem dX5_undo_11 : decode cX5_undo 11 = .ok (.dup, 1) := by decide +kernel
theorem dX5_undo_12 : decode cX5_undo 12 = .ok (.getfield 17, 3) := by decide +kernel
theorem dX5_undo_15 : decode cX5_undo 15 = .ok (.iconst 1, 1) := by decide +kernel
theorem dX5_undo_16 : decode cX5_undo 16 = .ok (.isub, 1) := by decide +kernel
theorem dX5_undo_17 : decode cX5_undo 17 = .ok (.putfield 17, 3) := by decide +kernel
theorem dX5_undo_20 : decode cX5_undo 20 = .ok (.aload_n 0, 1) := by decide +kernel
theorem dX5_undo_21 : decode cX5_undo 21 = .ok (.sipush 502, 3) := by decide +kernel
theorem dX5_undo_24 : decode cX5_undo 24 = .ok (.sipush 502, 3) := by decide +kernel
theorem dX5_undo_27 : decode cX5_undo 27 = .ok (.aload_n 0, 1) := by decide +kernel
theorem dX5_undo_28 : decode cX5_undo 28 = .ok (.getfield 17, 3) := by decide +kernel
theorem dX5_undo_31 : decode cX5_undo 31 = .ok (.imul, 1) := by decide +kernel
theorem dX5_undo_32 : decode cX5_undo 32 = .ok (.iadd, 1) := by decide +kernel
theorem dX5_undo_33 : decode cX5_undo 33 = .ok (.iconst 0, 1) := by decide +kernel
theorem dX5_undo_34 : decode cX5_undo 34 = .ok (.invokevirtual 21, 3) := by decide +kernel
theorem dX5_undo_37 : decode cX5_undo 37 = .ok (.aload_n 0, 1) := by decide +kernel
theorem dX5_undo_38 : decode cX5_undo 38 = .ok (.getfield 17, 3) := by decide +kernel
theorem dX5_undo_41 : decode cX5_undo 41 = .ok (.ireturn, 1) := by decide +kernel
theorem dX5_put_0 : decode cX5_put 0 = .ok (.iload_n 2, 1) := by decide +kernel
theorem dX5_put_1 : decode cX5_put 1 = .ok (.ifCond .ne 6, 3) := by decide +kernel
theorem dX5_put_4 : decode cX5_put 4 = .ok (.ldc 26, 2) := by decide +kernel
theorem dX5_put_6 : decode cX5_put 6 = .ok (.ireturn, 1) := by decide +kernel
theorem dX5_put_7 : decode cX5_put 7 = .ok (.aload_n 0, 1) := by decide +kernel
theorem dX5_put_8 : decode cX5_put 8 = .ok (.invokevirtual 27, 3) := by decide +kernel
theorem dX5_put_11 : decode cX5_put 11 = .ok (.aload_n 0, 1) := by decide +kernel
theorem dX5_put_12 : decode cX5_put 12 = .ok (.getfield 7, 3) := by decide +kernel
theorem dX5_put_15 : decode cX5_put 15 = .ok (.iload_n 1, 1) := by decide +kernel
theorem dX5_put_16 : decode cX5_put 16 = .ok (.iaload, 1) := by decide +kernel
theorem dX5_put_17 : decode cX5_put 17 = .ok (.istore 4, 2) := by decide +kernel
theorem dX5_put_19 : decode cX5_put 19 = .ok (.aload_n 0, 1) := by decide +kernel
theorem dX5_put_20 : decode cX5_put 20 = .ok (.getfield 7, 3) := by decide +kernel
theorem dX5_put_23 : decode cX5_put 23 = .ok (.iload_n 1, 1) := by decide +kernel
theorem dX5_put_24 : decode cX5_put 24 = .ok (.iload_n 3, 1) := by decide +kernel
theorem dX5_put_25 : decode cX5_put 25 = .ok (.iastore, 1) := by decide +kernel
theorem dX5_put_26 : decode cX5_put 26 = .ok (.iload 4, 2) := by decide +kernel
theorem dX5_put_28 : decode cX5_put 28 = .ok (.ireturn, 1) := by decide +kernel
theorem dX5_setClearance_0 : decode cX5_setClearance 0 = .ok (.aload_n 0, 1) := by decide +kernel
theorem dX5_setClearance_1 : decode cX5_setClearance 1 = .ok (.iconst 0, 1) := by decide +kernel
theorem dX5_setClearance_2 : decode cX5_setClearance 2 = .ok (.iload_n 1, 1) := by decide +kernel
theorem dX5_setClearance_3 : decode cX5_setClearance 3 = .ok (.iconst 1, 1) := by decide +kernel
theorem dX5_setClearance_4 : decode cX5_setClearance 4 = .ok (.bipush 20, 2) := by decide +kernel
theorem dX5_setClearance_6 : decode cX5_setClearance 6 = .ok (.invokestatic 13, 3) := by decide +kernel
theorem dX5_setClearance_9 : decode cX5_setClearance 9 = .ok (.iload_n 1, 1) := by decide +kernel
theorem dX5_setClearance_10 : decode cX5_setClearance 10 = .ok (.invokevirtual 30, 3) := by decide +kernel
theorem dX5_setClearance_13 : decode cX5_setClearance 13 = .ok (.ireturn, 1) := by decide +kernel
theorem dX5_setPistonArea_0 : decode cX5_setPistonArea 0 = .ok (.aload_n 0, 1) := by decide +kernel
theorem dX5_setPistonArea_1 : decode cX5_setPistonArea 1 = .ok (.iload_n 1, 1) := by decide +kernel
theorem dX5_setPistonArea_2 : decode cX5_setPistonArea 2 = .ok (.iconst 1, 1) := by decide +kernel
theorem dX5_setPistonArea_3 : decode cX5_setPistonArea 3 = .ok (.if_icmp .ne 7, 3) := by decide +kernel
theorem dX5_setPistonArea_6 : decode cX5_setPistonArea 6 = .ok (.iconst 2, 1) := by decide +kernel
theorem dX5_setPistonArea_7 : decode cX5_setPistonArea 7 = .ok (.goto 4, 3) := by decide +kernel
theorem dX5_setPistonArea_10 : decode cX5_setPistonArea 10 = .ok (.iconst 1, 1) := by decide +kernel
theorem dX5_setPistonArea_11 : decode cX5_setPistonArea 11 = .ok (.iload_n 1, 1) := by decide +kernel
theorem dX5_setPistonArea_12 : decode cX5_setPistonArea 12 = .ok (.invokestatic 34, 3) := by decide +kernel
theorem dX5_setPistonArea_15 : decode cX5_setPistonArea 15 = .ok (.ifCond .eq 18, 3) := by decide +kernel
theorem dX5_setPistonArea_18 : decode cX5_setPistonArea 18 = .ok (.iload_n 2, 1) := by decide +kernel
theorem dX5_setPistonArea_19 : decode cX5_setPistonArea 19 = .ok (.iconst 1, 1) := by decide +kernel
theorem dX5_setPistonArea_20 : decode cX5_setPistonArea 20 = .ok (.sipush 5000, 3) := by decide +kernel
theorem dX5_setPistonArea_23 : decode cX5_setPistonArea 23 = .ok (.invokestatic 13, 3) := by decide +kernel
theorem dX5_setPistonArea_26 : decode cX5_setPistonArea 26 = .ok (.ifCond .eq 7, 3) := by decide +kernel
theorem dX5_setPistonArea_29 : decode cX5_setPistonArea 29 = .ok (.iconst 1, 1) := by decide +kernel
theorem dX5_setPistonArea_30 : decode cX5_setPistonArea 30 = .ok (.goto 4, 3) := by decide +kernel
theorem dX5_setPistonArea_33 : decode cX5_setPistonArea 33 = .ok (.iconst 0, 1) := by decide +kernel
theorem dX5_setPistonArea_34 : decode cX5_setPistonArea 34 = .ok (.iload_n 2, 1) := by decide +kernel
theorem dX5_setPistonArea_35 : decode cX5_setPistonArea 35 = .ok (.invokevirtual 30, 3) := by decide +kernel
theorem dX5_setPistonArea_38 : decode cX5_setPistonArea 38 = .ok (.ireturn, 1) := by decide +kernel
theorem dX5_setStroke_0 : decode cX5_setStroke 0 = .ok (.aload_n 0, 1) := by decide +kernel
theorem dX5_setStroke_1 : decode cX5_setStroke 1 = .ok (.iconst 3, 1) := by decide +kernel
theorem dX5_setStroke_2 : decode cX5_setStroke 2 = .ok (.iload_n 1, 1) := by decide +kernel
theorem dX5_setStroke_3 : decode cX5_setStroke 3 = .ok (.iconst 1, 1) := by decide +kernel
theorem dX5_setStroke_4 : decode cX5_setStroke 4 = .ok (.sipush 300, 3) := by decide +kernel
theorem dX5_setStroke_7 : decode cX5_setStroke 7 = .ok (.invokestatic 13, 3) := by decide +kernel
theorem dX5_setStroke_10 : decode cX5_setStroke 10 = .ok (.iload_n 1, 1) := by decide +kernel
theorem dX5_setStroke_11 : decode cX5_setStroke 11 = .ok (.invokevirtual 30, 3) := by decide +kernel
theorem dX5_setStroke_14 : decode cX5_setStroke 14 = .ok (.ireturn, 1) := by decide +kernel
theorem dX5_setBoilerPressure_0 : decode cX5_setBoilerPressure 0 = .ok (.aload_n 0, 1) := by decide +kernel
theorem dX5_setBoilerPressure_1 : decode cX5_setBoilerPressure 1 = .ok (.iconst 4, 1) := by decide +kernel
theorem dX5_setBoilerPressure_2 : decode cX5_setBoilerPressure 2 = .ok (.iload_n 1, 1) := by decide +kernel
theorem dX5_setBoilerPressure_3 : decode cX5_setBoilerPressure 3 = .ok (.bipush 100, 2) := by decide +kernel
theorem dX5_setBoilerPressure_5 : decode cX5_setBoilerPressure 5 = .ok (.sipush 2000, 3) := by decide +kernel
theorem dX5_setBoilerPressure_8 : decode cX5_setBoilerPressure 8 = .ok (.invokestatic 13, 3) := by decide +kernel
theorem dX5_setBoilerPressure_11 : decode cX5_setBoilerPressure 11 = .ok (.iload_n 1, 1) := by decide +kernel
theorem dX5_setBoilerPressure_12 : decode cX5_setBoilerPressure 12 = .ok (.invokevirtual 30, 3) := by decide +kernel
theorem dX5_setBoilerPressure_15 : decode cX5_setBoilerPressure 15 = .ok (.ireturn, 1) := by decide +kernel
theorem dX5_setBackPressure_0 : decode cX5_setBackPressure 0 = .ok (.aload_n 0, 1) := by decide +kernel
theorem dX5_setBackPressure_1 : decode cX5_setBackPressure 1 = .ok (.iconst 5, 1) := by decide +kernel
theorem dX5_setBackPressure_2 : decode cX5_setBackPressure 2 = .ok (.iload_n 1, 1) := by decide +kernel
theorem dX5_setBackPressure_3 : decode cX5_setBackPressure 3 = .ok (.bipush 10, 2) := by decide +kernel
theorem dX5_setBackPressure_5 : decode cX5_setBackPressure 5 = .ok (.bipush 99, 2) := by decide +kernel
theorem dX5_setBackPressure_7 : decode cX5_setBackPressure 7 = .ok (.invokestatic 13, 3) := by decide +kernel
theorem dX5_setBackPressure_10 : decode cX5_setBackPressure 10 = .ok (.iload_n 1, 1) := by decide +kernel
theorem dX5_setBackPressure_11 : decode cX5_setBackPressure 11 = .ok (.invokevirtual 30, 3) := by decide +kernel
theorem dX5_setBackPressure_14 : decode cX5_setBackPressure 14 = .ok (.ireturn, 1) := by decide +kernel
theorem dX5_setFinding_0 : decode cX5_setFinding 0 = .ok (.iload_n 1, 1) := by decide +kernel
theorem dX5_setFinding_1 : decode cX5_setFinding 1 = .ok (.iconst 1, 1) := by decide +kernel
theorem dX5_setFinding_2 : decode cX5_setFinding 2 = .ok (.bipush 100, 2) := by decide +kernel
theorem dX5_setFinding_4 : decode cX5_setFinding 4 = .ok (.invokestatic 13, 3) := by decide +kernel
theorem dX5_setFinding_7 : decode cX5_setFinding 7 = .ok (.ifCond .eq 13, 3) := by decide +kernel
theorem dX5_setFinding_10 : decode cX5_setFinding 10 = .ok (.iload_n 2, 1) := by decide +kernel
theorem dX5_setFinding_11 : decode cX5_setFinding 11 = .ok (.iconst 1, 1) := by decide +kernel
theorem dX5_setFinding_12 : decode cX5_setFinding 12 = .ok (.bipush 50, 2) := by decide +kernel
theorem dX5_setFinding_14 : decode cX5_setFinding 14 = .ok (.invokestatic 13, 3) := by decide +kernel
theorem dX5_setFinding_17 : decode cX5_setFinding 17 = .ok (.ifCond .ne 6, 3) := by decide +kernel
theorem dX5_setFinding_20 : decode cX5_setFinding 20 = .ok (.ldc 26, 2) := by decide +kernel
theorem dX5_setFinding_22 : decode cX5_setFinding 22 = .ok (.ireturn, 1) := by decide +kernel
theorem dX5_setFinding_23 : decode cX5_setFinding 23 = .ok (.aload_n 0, 1) := by decide +kernel
theorem dX5_setFinding_24 : decode cX5_setFinding 24 = .ok (.invokevirtual 27, 3) := by decide +kernel
theorem dX5_setFinding_27 : decode cX5_setFinding 27 = .ok (.bipush 100, 2) := by decide +kernel
theorem dX5_setFinding_29 : decode cX5_setFinding 29 = .ok (.aload_n 0, 1) := by decide +kernel
theorem dX5_setFinding_30 : decode cX5_setFinding 30 = .ok (.getfield 7, 3) := by decide +kernel
theorem dX5_setFinding_33 : decode cX5_setFinding 33 = .ok (.bipush 6, 2) := by decide +kernel
theorem dX5_setFinding_35 : decode cX5_setFinding 35 = .ok (.iaload, 1) := by decide +kernel
theorem dX5_setFinding_36 : decode cX5_setFinding 36 = .ok (.imul, 1) := by decide +kernel
theorem dX5_setFinding_37 : decode cX5_setFinding 37 = .ok (.aload_n 0, 1) := by decide +kernel
theorem dX5_setFinding_38 : decode cX5_setFinding 38 = .ok (.getfield 7, 3) := by decide +kernel
theorem dX5_setFinding_41 : decode cX5_setFinding 41 = .ok (.bipush 7, 2) := by decide +kernel
theorem dX5_setFinding_43 : decode cX5_setFinding 43 = .ok (.iaload, 1) := by decide +kernel
theorem dX5_setFinding_44 : decode cX5_setFinding 44 = .ok (.iadd, 1) := by decide +kernel
theorem dX5_setFinding_45 : decode cX5_setFinding 45 = .ok (.istore_n 3, 1) := by decide +kernel
theorem dX5_setFinding_46 : decode cX5_setFinding 46 = .ok (.aload_n 0, 1) := by decide +kernel
theorem dX5_setFinding_47 : decode cX5_setFinding 47 = .ok (.getfield 7, 3) := by decide +kernel
theorem dX5_setFinding_50 : decode cX5_setFinding 50 = .ok (.bipush 6, 2) := by decide +kernel
theorem dX5_setFinding_52 : decode cX5_setFinding 52 = .ok (.iload_n 1, 1) := by decide +kernel
theorem dX5_setFinding_53 : decode cX5_setFinding 53 = .ok (.iastore, 1) := by decide +kernel
theorem dX5_setFinding_54 : decode cX5_setFinding 54 = .ok (.aload_n 0, 1) := by decide +kernel
theorem dX5_setFinding_55 : decode cX5_setFinding 55 = .ok (.getfield 7, 3) := by decide +kernel
theorem dX5_setFinding_58 : decode cX5_setFinding 58 = .ok (.bipush 7, 2) := by decide +kernel
theorem dX5_setFinding_60 : decode cX5_setFinding 60 = .ok (.iload_n 2, 1) := by decide +kernel
theorem dX5_setFinding_61 : decode cX5_setFinding 61 = .ok (.iastore, 1) := by decide +kernel
theorem dX5_setFinding_62 : decode cX5_setFinding 62 = .ok (.iload_n 3, 1) := by decide +kernel
theorem dX5_setFinding_63 : decode cX5_setFinding 63 = .ok (.ireturn, 1) := by decide +kernel
theorem dX5_setValves_0 : decode cX5_setValves 0 = .ok (.iload_n 1, 1) := by decide +kernel
theorem dX5_setValves_1 : decode cX5_setValves 1 = .ok (.invokestatic 34, 3) := by decide +kernel
theorem dX5_setValves_4 : decode cX5_setValves 4 = .ok (.ifCond .eq 48, 3) := by decide +kernel
theorem dX5_setValves_7 : decode cX5_setValves 7 = .ok (.iload_n 2, 1) := by decide +kernel
theorem dX5_setValves_8 : decode cX5_setValves 8 = .ok (.iconst 0, 1) := by decide +kernel
theorem dX5_setValves_9 : decode cX5_setValves 9 = .ok (.iconst 5, 1) := by decide +kernel
theorem dX5_setValves_10 : decode cX5_setValves 10 = .ok (.invokestatic 13, 3) := by decide +kernel
theorem dX5_setValves_13 : decode cX5_setValves 13 = .ok (.ifCond .eq 39, 3) := by decide +kernel
theorem dX5_setValves_16 : decode cX5_setValves 16 = .ok (.iload_n 3, 1) := by decide +kernel
theorem dX5_setValves_17 : decode cX5_setValves 17 = .ok (.iconst 1, 1) := by decide +kernel
theorem dX5_setValves_18 : decode cX5_setValves 18 = .ok (.bipush 18, 2) := by decide +kernel
theorem dX5_setValves_20 : decode cX5_setValves 20 = .ok (.invokestatic 13, 3) := by decide +kernel
theorem dX5_setValves_23 : decode cX5_setValves 23 = .ok (.ifCond .eq 29, 3) := by decide +kernel
theorem dX5_setValves_26 : decode cX5_setValves 26 = .ok (.iload 4, 2) := by decide +kernel
theorem dX5_setValves_28 : decode cX5_setValves 28 = .ok (.iconst 2, 1) := by decide +kernel
theorem dX5_setValves_29 : decode cX5_setValves 29 = .ok (.bipush 20, 2) := by decide +kernel
theorem dX5_setValves_31 : decode cX5_setValves 31 = .ok (.invokestatic 13, 3) := by decide +kernel
theorem dX5_setValves_34 : decode cX5_setValves 34 = .ok (.ifCond .eq 18, 3) := by decide +kernel
theorem dX5_setValves_37 : decode cX5_setValves 37 = .ok (.iload 5, 2) := by decide +kernel
theorem dX5_setValves_39 : decode cX5_setValves 39 = .ok (.iconst 0, 1) := by decide +kernel
theorem dX5_setValves_40 : decode cX5_setValves 40 = .ok (.bipush 19, 2) := by decide +kernel
theorem dX5_setValves_42 : decode cX5_setValves 42 = .ok (.invokestatic 13, 3) := by decide +kernel
theorem dX5_setValves_45 : decode cX5_setValves 45 = .ok (.ifCond .eq 7, 3) := by decide +kernel
theorem dX5_setValves_48 : decode cX5_setValves 48 = .ok (.iconst 1, 1) := by decide +kernel
theorem dX5_setValves_49 : decode cX5_setValves 49 = .ok (.goto 4, 3) := by decide +kernel
theorem dX5_setValves_52 : decode cX5_setValves 52 = .ok (.iconst 0, 1) := by decide +kernel
theorem dX5_setValves_53 : decode cX5_setValves 53 = .ok (.istore 6, 2) := by decide +kernel
theorem dX5_setValves_55 : decode cX5_setValves 55 = .ok (.iload 6, 2) := by decide +kernel
theorem dX5_setValves_57 : decode cX5_setValves 57 = .ok (.ifCond .eq 14, 3) := by decide +kernel
theorem dX5_setValves_60 : decode cX5_setValves 60 = .ok (.iload_n 3, 1) := by decide +kernel
theorem dX5_setValves_61 : decode cX5_setValves 61 = .ok (.iload_n 2, 1) := by decide +kernel
theorem dX5_setValves_62 : decode cX5_setValves 62 = .ok (.if_icmp .le 9, 3) := by decide +kernel
theorem dX5_setValves_65 : decode cX5_setValves 65 = .ok (.iload 4, 2) := by decide +kernel
theorem dX5_setValves_67 : decode cX5_setValves 67 = .ok (.iload_n 3, 1) := by decide +kernel
theorem dX5_setValves_68 : decode cX5_setValves 68 = .ok (.if_icmp .gt 6, 3) := by decide +kernel
theorem dX5_setValves_71 : decode cX5_setValves 71 = .ok (.ldc 26, 2) := by decide +kernel
theorem dX5_setValves_73 : decode cX5_setValves 73 = .ok (.ireturn, 1) := by decide +kernel
theorem dX5_setValves_74 : decode cX5_setValves 74 = .ok (.aload_n 0, 1) := by decide +kernel
theorem dX5_setValves_75 : decode cX5_setValves 75 = .ok (.invokevirtual 27, 3) := by decide +kernel
theorem dX5_setValves_78 : decode cX5_setValves 78 = .ok (.aload_n 0, 1) := by decide +kernel
theorem dX5_setValves_79 : decode cX5_setValves 79 = .ok (.getfield 7, 3) := by decide +kernel
theorem dX5_setValves_82 : decode cX5_setValves 82 = .ok (.bipush 8, 2) := by decide +kernel
theorem dX5_setValves_84 : decode cX5_setValves 84 = .ok (.iconst 4, 1) := by decide +kernel
theorem dX5_setValves_85 : decode cX5_setValves 85 = .ok (.iload_n 1, 1) := by decide +kernel
theorem dX5_setValves_86 : decode cX5_setValves 86 = .ok (.imul, 1) := by decide +kernel
theorem dX5_setValves_87 : decode cX5_setValves 87 = .ok (.iadd, 1) := by decide +kernel
theorem dX5_setValves_88 : decode cX5_setValves 88 = .ok (.iload_n 2, 1) := by decide +kernel
theorem dX5_setValves_89 : decode cX5_setValves 89 = .ok (.iastore, 1) := by decide +kernel
theorem dX5_setValves_90 : decode cX5_setValves 90 = .ok (.aload_n 0, 1) := by decide +kernel
theorem dX5_setValves_91 : decode cX5_setValves 91 = .ok (.getfield 7, 3) := by decide +kernel
theorem dX5_setValves_94 : decode cX5_setValves 94 = .ok (.bipush 8, 2) := by decide +kernel
theorem dX5_setValves_96 : decode cX5_setValves 96 = .ok (.iconst 4, 1) := by decide +kernel
theorem dX5_setValves_97 : decode cX5_setValves 97 = .ok (.iload_n 1, 1) := by decide +kernel
theorem dX5_setValves_98 : decode cX5_setValves 98 = .ok (.imul, 1) := by decide +kernel
theorem dX5_setValves_99 : decode cX5_setValves 99 = .ok (.iadd, 1) := by decide +kernel
theorem dX5_setValves_100 : decode cX5_setValves 100 = .ok (.iconst 1, 1) := by decide +kernel
theorem dX5_setValves_101 : decode cX5_setValves 101 = .ok (.iadd, 1) := by decide +kernel
theorem dX5_setValves_102 : decode cX5_setValves 102 = .ok (.iload_n 3, 1) := by decide +kernel
theorem dX5_setValves_103 : decode cX5_setValves 103 = .ok (.iastore, 1) := by decide +kernel
theorem dX5_setValves_104 : decode cX5_setValves 104 = .ok (.aload_n 0, 1) := by decide +kernel
theorem dX5_setValves_105 : decode cX5_setValves 105 = .ok (.getfield 7, 3) := by decide +kernel
theorem dX5_setValves_108 : decode cX5_setValves 108 = .ok (.bipush 8, 2) := by decide +kernel
theorem dX5_setValves_110 : decode cX5_setValves 110 = .ok (.iconst 4, 1) := by decide +kernel
theorem dX5_setValves_111 : decode cX5_setValves 111 = .ok (.iload_n 1, 1) := by decide +kernel
theorem dX5_setValves_112 : decode cX5_setValves 112 = .ok (.imul, 1) := by decide +kernel
theorem dX5_setValves_113 : decode cX5_setValves 113 = .ok (.iadd, 1) := by decide +kernel
theorem dX5_setValves_114 : decode cX5_setValves 114 = .ok (.iconst 2, 1) := by decide +kernel
theorem dX5_setValves_115 : decode cX5_setValves 115 = .ok (.iadd, 1) := by decide +kernel
theorem dX5_setValves_116 : decode cX5_setValves 116 = .ok (.iload 4, 2) := by decide +kernel
theorem dX5_setValves_118 : decode cX5_setValves 118 = .ok (.iastore, 1) := by decide +kernel
theorem dX5_setValves_119 : decode cX5_setValves 119 = .ok (.aload_n 0, 1) := by decide +kernel
theorem dX5_setValves_120 : decode cX5_setValves 120 = .ok (.getfield 7, 3) := by decide +kernel
theorem dX5_setValves_123 : decode cX5_setValves 123 = .ok (.bipush 8, 2) := by decide +kernel
theorem dX5_setValves_125 : decode cX5_setValves 125 = .ok (.iconst 4, 1) := by decide +kernel
theorem dX5_setValves_126 : decode cX5_setValves 126 = .ok (.iload_n 1, 1) := by decide +kernel
theorem dX5_setValves_127 : decode cX5_setValves 127 = .ok (.imul, 1) := by decide +kernel
theorem dX5_setValves_128 : decode cX5_setValves 128 = .ok (.iadd, 1) := by decide +kernel
theorem dX5_setValves_129 : decode cX5_setValves 129 = .ok (.iconst 3, 1) := by decide +kernel
theorem dX5_setValves_130 : decode cX5_setValves 130 = .ok (.iadd, 1) := by decide +kernel
theorem dX5_setValves_131 : decode cX5_setValves 131 = .ok (.iload 5, 2) := by decide +kernel
theorem dX5_setValves_133 : decode cX5_setValves 133 = .ok (.iastore, 1) := by decide +kernel
theorem dX5_setValves_134 : decode cX5_setValves 134 = .ok (.iconst 0, 1) := by decide +kernel
theorem dX5_setValves_135 : decode cX5_setValves 135 = .ok (.ireturn, 1) := by decide +kernel
theorem dX5_valve_0 : decode cX5_valve 0 = .ok (.iload_n 1, 1) := by decide +kernel
theorem dX5_valve_1 : decode cX5_valve 1 = .ok (.invokestatic 34, 3) := by decide +kernel
theorem dX5_valve_4 : decode cX5_valve 4 = .ok (.ifCond .eq 28, 3) := by decide +kernel
theorem dX5_valve_7 : decode cX5_valve 7 = .ok (.iload_n 2, 1) := by decide +kernel
theorem dX5_valve_8 : decode cX5_valve 8 = .ok (.iconst 0, 1) := by decide +kernel
theorem dX5_valve_9 : decode cX5_valve 9 = .ok (.iconst 3, 1) := by decide +kernel
theorem dX5_valve_10 : decode cX5_valve 10 = .ok (.invokestatic 13, 3) := by decide +kernel
theorem dX5_valve_13 : decode cX5_valve 13 = .ok (.ifCond .eq 19, 3) := by decide +kernel
theorem dX5_valve_16 : decode cX5_valve 16 = .ok (.aload_n 0, 1) := by decide +kernel
theorem dX5_valve_17 : decode cX5_valve 17 = .ok (.getfield 7, 3) := by decide +kernel
theorem dX5_valve_20 : decode cX5_valve 20 = .ok (.bipush 8, 2) := by decide +kernel
theorem dX5_valve_22 : decode cX5_valve 22 = .ok (.iconst 4, 1) := by decide +kernel
theorem dX5_valve_23 : decode cX5_valve 23 = .ok (.iload_n 1, 1) := by decide +kernel
theorem dX5_valve_24 : decode cX5_valve 24 = .ok (.imul, 1) := by decide +kernel
theorem dX5_valve_25 : decode cX5_valve 25 = .ok (.iadd, 1) := by decide +kernel
theorem dX5_valve_26 : decode cX5_valve 26 = .ok (.iload_n 2, 1) := by decide +kernel
theorem dX5_valve_27 : decode cX5_valve 27 = .ok (.iadd, 1) := by decide +kernel
theorem dX5_valve_28 : decode cX5_valve 28 = .ok (.iaload, 1) := by decide +kernel
theorem dX5_valve_29 : decode cX5_valve 29 = .ok (.goto 5, 3) := by decide +kernel
theorem dX5_valve_32 : decode cX5_valve 32 = .ok (.ldc 26, 2) := by decide +kernel
theorem dX5_valve_34 : decode cX5_valve 34 = .ok (.ireturn, 1) := by decide +kernel
theorem dX5_volume_0 : decode cX5_volume 0 = .ok (.aload_n 0, 1) := by decide +kernel
theorem dX5_volume_1 : decode cX5_volume 1 = .ok (.getfield 7, 3) := by decide +kernel
theorem dX5_volume_4 : decode cX5_volume 4 = .ok (.iconst 0, 1) := by decide +kernel
theorem dX5_volume_5 : decode cX5_volume 5 = .ok (.iaload, 1) := by decide +kernel
theorem dX5_volume_6 : decode cX5_volume 6 = .ok (.iload_n 1, 1) := by decide +kernel
theorem dX5_volume_7 : decode cX5_volume 7 = .ok (.iadd, 1) := by decide +kernel
theorem dX5_volume_8 : decode cX5_volume 8 = .ok (.ireturn, 1) := by decide +kernel
theorem dX5_beginCard_0 : decode cX5_beginCard 0 = .ok (.iload_n 1, 1) := by decide +kernel
theorem dX5_beginCard_1 : decode cX5_beginCard 1 = .ok (.invokestatic 34, 3) := by decide +kernel
theorem dX5_beginCard_4 : decode cX5_beginCard 4 = .ok (.ifCond .eq 14, 3) := by decide +kernel
theorem dX5_beginCard_7 : decode cX5_beginCard 7 = .ok (.iload_n 2, 1) := by decide +kernel
theorem dX5_beginCard_8 : decode cX5_beginCard 8 = .ok (.iconst 1, 1) := by decide +kernel
theorem dX5_beginCard_9 : decode cX5_beginCard 9 = .ok (.sipush 600, 3) := by decide +kernel
theorem dX5_beginCard_12 : decode cX5_beginCard 12 = .ok (.invokestatic 13, 3) := by decide +kernel
theorem dX5_beginCard_15 : decode cX5_beginCard 15 = .ok (.ifCond .ne 6, 3) := by decide +kernel
theorem dX5_beginCard_18 : decode cX5_beginCard 18 = .ok (.ldc 26, 2) := by decide +kernel
theorem dX5_beginCard_20 : decode cX5_beginCard 20 = .ok (.ireturn, 1) := by decide +kernel
theorem dX5_beginCard_21 : decode cX5_beginCard 21 = .ok (.aload_n 0, 1) := by decide +kernel
theorem dX5_beginCard_22 : decode cX5_beginCard 22 = .ok (.invokevirtual 27, 3) := by decide +kernel
theorem dX5_beginCard_25 : decode cX5_beginCard 25 = .ok (.aload_n 0, 1) := by decide +kernel
theorem dX5_beginCard_26 : decode cX5_beginCard 26 = .ok (.getfield 7, 3) := by decide +kernel
theorem dX5_beginCard_29 : decode cX5_beginCard 29 = .ok (.bipush 16, 2) := by decide +kernel
theorem dX5_beginCard_31 : decode cX5_beginCard 31 = .ok (.iaload, 1) := by decide +kernel
theorem dX5_beginCard_32 : decode cX5_beginCard 32 = .ok (.istore_n 3, 1) := by decide +kernel
theorem dX5_beginCard_33 : decode cX5_beginCard 33 = .ok (.aload_n 0, 1) := by decide +kernel
theorem dX5_beginCard_34 : decode cX5_beginCard 34 = .ok (.getfield 7, 3) := by decide +kernel
theorem dX5_beginCard_37 : decode cX5_beginCard 37 = .ok (.bipush 16, 2) := by decide +kernel
theorem dX5_beginCard_39 : decode cX5_beginCard 39 = .ok (.iconst 1, 1) := by decide +kernel
theorem dX5_beginCard_40 : decode cX5_beginCard 40 = .ok (.iastore, 1) := by decide +kernel
theorem dX5_beginCard_41 : decode cX5_beginCard 41 = .ok (.aload_n 0, 1) := by decide +kernel
theorem dX5_beginCard_42 : decode cX5_beginCard 42 = .ok (.getfield 7, 3) := by decide +kernel
theorem dX5_beginCard_45 : decode cX5_beginCard 45 = .ok (.bipush 17, 2) := by decide +kernel
theorem dX5_beginCard_47 : decode cX5_beginCard 47 = .ok (.iload_n 1, 1) := by decide +kernel
theorem dX5_beginCard_48 : decode cX5_beginCard 48 = .ok (.iastore, 1) := by decide +kernel
theorem dX5_beginCard_49 : decode cX5_beginCard 49 = .ok (.aload_n 0, 1) := by decide +kernel
theorem dX5_beginCard_50 : decode cX5_beginCard 50 = .ok (.getfield 7, 3) := by decide +kernel
theorem dX5_beginCard_53 : decode cX5_beginCard 53 = .ok (.bipush 18, 2) := by decide +kernel
theorem dX5_beginCard_55 : decode cX5_beginCard 55 = .ok (.iload_n 2, 1) := by decide +kernel
theorem dX5_beginCard_56 : decode cX5_beginCard 56 = .ok (.iastore, 1) := by decide +kernel
theorem dX5_beginCard_57 : decode cX5_beginCard 57 = .ok (.iconst 0, 1) := by decide +kernel
theorem dX5_beginCard_58 : decode cX5_beginCard 58 = .ok (.istore 4, 2) := by decide +kernel
theorem dX5_beginCard_60 : decode cX5_beginCard 60 = .ok (.iload 4, 2) := by decide +kernel
theorem dX5_beginCard_62 : decode cX5_beginCard 62 = .ok (.bipush 42, 2) := by decide +kernel
theorem dX5_beginCard_64 : decode cX5_beginCard 64 = .ok (.if_icmp .ge 20, 3) := by decide +kernel
theorem dX5_beginCard_67 : decode cX5_beginCard 67 = .ok (.aload_n 0, 1) := by decide +kernel
theorem dX5_beginCard_68 : decode cX5_beginCard 68 = .ok (.getfield 7, 3) := by decide +kernel
theorem dX5_beginCard_71 : decode cX5_beginCard 71 = .ok (.bipush 19, 2) := by decide +kernel
theorem dX5_beginCard_73 : decode cX5_beginCard 73 = .ok (.iload 4, 2) := by decide +kernel
theorem dX5_beginCard_75 : decode cX5_beginCard 75 = .ok (.iadd, 1) := by decide +kernel
theorem dX5_beginCard_76 : decode cX5_beginCard 76 = .ok (.iconst 0, 1) := by decide +kernel
theorem dX5_beginCard_77 : decode cX5_beginCard 77 = .ok (.iastore, 1) := by decide +kernel
theorem dX5_beginCard_78 : decode cX5_beginCard 78 = .ok (.iinc 4 1, 3) := by decide +kernel
theorem dX5_beginCard_81 : decode cX5_beginCard 81 = .ok (.goto (-21), 3) := by decide +kernel
theorem dX5_beginCard_84 : decode cX5_beginCard 84 = .ok (.iload_n 3, 1) := by decide +kernel
theorem dX5_beginCard_85 : decode cX5_beginCard 85 = .ok (.ireturn, 1) := by decide +kernel
theorem dX5_points_0 : decode cX5_points 0 = .ok (.iconst 0, 1) := by decide +kernel
theorem dX5_points_1 : decode cX5_points 1 = .ok (.istore_n 2, 1) := by decide +kernel
theorem dX5_points_2 : decode cX5_points 2 = .ok (.iconst 0, 1) := by decide +kernel
theorem dX5_points_3 : decode cX5_points 3 = .ok (.istore_n 3, 1) := by decide +kernel
theorem dX5_points_4 : decode cX5_points 4 = .ok (.iload_n 3, 1) := by decide +kernel
theorem dX5_points_5 : decode cX5_points 5 = .ok (.bipush 21, 2) := by decide +kernel
theorem dX5_points_7 : decode cX5_points 7 = .ok (.if_icmp .ge 34, 3) := by decide +kernel
theorem dX5_points_10 : decode cX5_points 10 = .ok (.iload_n 2, 1) := by decide +kernel
theorem dX5_points_11 : decode cX5_points 11 = .ok (.aload_n 0, 1) := by decide +kernel
theorem dX5_points_12 : decode cX5_points 12 = .ok (.getfield 7, 3) := by decide +kernel
theorem dX5_points_15 : decode cX5_points 15 = .ok (.bipush 19, 2) := by decide +kernel
theorem dX5_points_17 : decode cX5_points 17 = .ok (.bipush 21, 2) := by decide +kernel
theorem dX5_points_19 : decode cX5_points 19 = .ok (.iload_n 1, 1) := by decide +kernel
theorem dX5_points_20 : decode cX5_points 20 = .ok (.imul, 1) := by decide +kernel
theorem dX5_points_21 : decode cX5_points 21 = .ok (.iadd, 1) := by decide +kernel
theorem dX5_points_22 : decode cX5_points 22 = .ok (.iload_n 3, 1) := by decide +kernel
theorem dX5_points_23 : decode cX5_points 23 = .ok (.iadd, 1) := by decide +kernel
theorem dX5_points_24 : decode cX5_points 24 = .ok (.iaload, 1) := by decide +kernel
theorem dX5_points_25 : decode cX5_points 25 = .ok (.ifCond .le 7, 3) := by decide +kernel
theorem dX5_points_28 : decode cX5_points 28 = .ok (.iconst 1, 1) := by decide +kernel
theorem dX5_points_29 : decode cX5_points 29 = .ok (.goto 4, 3) := by decide +kernel
theorem dX5_points_32 : decode cX5_points 32 = .ok (.iconst 0, 1) := by decide +kernel
theorem dX5_points_33 : decode cX5_points 33 = .ok (.iadd, 1) := by decide +kernel
theorem dX5_points_34 : decode cX5_points 34 = .ok (.istore_n 2, 1) := by decide +kernel
theorem dX5_points_35 : decode cX5_points 35 = .ok (.iinc 3 1, 3) := by decide +kernel
theorem dX5_points_38 : decode cX5_points 38 = .ok (.goto (-34), 3) := by decide +kernel
theorem dX5_points_41 : decode cX5_points 41 = .ok (.iload_n 2, 1) := by decide +kernel
theorem dX5_points_42 : decode cX5_points 42 = .ok (.ireturn, 1) := by decide +kernel
theorem dX5_setPoint_0 : decode cX5_setPoint 0 = .ok (.iload_n 1, 1) := by decide +kernel
theorem dX5_setPoint_1 : decode cX5_setPoint 1 = .ok (.iconst 0, 1) := by decide +kernel
theorem dX5_setPoint_2 : decode cX5_setPoint 2 = .ok (.iconst 1, 1) := by decide +kernel
theorem dX5_setPoint_3 : decode cX5_setPoint 3 = .ok (.invokestatic 13, 3) := by decide +kernel
theorem dX5_setPoint_6 : decode cX5_setPoint 6 = .ok (.ifCond .eq 24, 3) := by decide +kernel
theorem dX5_setPoint_9 : decode cX5_setPoint 9 = .ok (.iload_n 2, 1) := by decide +kernel
theorem dX5_setPoint_10 : decode cX5_setPoint 10 = .ok (.iconst 0, 1) := by decide +kernel
theorem dX5_setPoint_11 : decode cX5_setPoint 11 = .ok (.bipush 20, 2) := by decide +kernel
theorem dX5_setPoint_13 : decode cX5_setPoint 13 = .ok (.invokestatic 13, 3) := by decide +kernel
theorem dX5_setPoint_16 : decode cX5_setPoint 16 = .ok (.ifCond .eq 14, 3) := by decide +kernel
theorem dX5_setPoint_19 : decode cX5_setPoint 19 = .ok (.iload_n 3, 1) := by decide +kernel
theorem dX5_setPoint_20 : decode cX5_setPoint 20 = .ok (.iconst 0, 1) := by decide +kernel
theorem dX5_setPoint_21 : decode cX5_setPoint 21 = .ok (.sipush 5000, 3) := by decide +kernel
theorem dX5_setPoint_24 : decode cX5_setPoint 24 = .ok (.invokestatic 13, 3) := by decide +kernel
theorem dX5_setPoint_27 : decode cX5_setPoint 27 = .ok (.ifCond .ne 6, 3) := by decide +kernel
theorem dX5_setPoint_30 : decode cX5_setPoint 30 = .ok (.ldc 26, 2) := by decide +kernel
theorem dX5_setPoint_32 : decode cX5_setPoint 32 = .ok (.ireturn, 1) := by decide +kernel
theorem dX5_setPoint_33 : decode cX5_setPoint 33 = .ok (.aload_n 0, 1) := by decide +kernel
theorem dX5_setPoint_34 : decode cX5_setPoint 34 = .ok (.getfield 7, 3) := by decide +kernel
theorem dX5_setPoint_37 : decode cX5_setPoint 37 = .ok (.bipush 16, 2) := by decide +kernel
theorem dX5_setPoint_39 : decode cX5_setPoint 39 = .ok (.iaload, 1) := by decide +kernel
theorem dX5_setPoint_40 : decode cX5_setPoint 40 = .ok (.ifCond .ne 6, 3) := by decide +kernel
theorem dX5_setPoint_43 : decode cX5_setPoint 43 = .ok (.ldc 25, 2) := by decide +kernel
theorem dX5_setPoint_45 : decode cX5_setPoint 45 = .ok (.ireturn, 1) := by decide +kernel
theorem dX5_setPoint_46 : decode cX5_setPoint 46 = .ok (.aload_n 0, 1) := by decide +kernel
theorem dX5_setPoint_47 : decode cX5_setPoint 47 = .ok (.invokevirtual 27, 3) := by decide +kernel
theorem dX5_setPoint_50 : decode cX5_setPoint 50 = .ok (.aload_n 0, 1) := by decide +kernel
theorem dX5_setPoint_51 : decode cX5_setPoint 51 = .ok (.getfield 7, 3) := by decide +kernel
theorem dX5_setPoint_54 : decode cX5_setPoint 54 = .ok (.bipush 19, 2) := by decide +kernel
theorem dX5_setPoint_56 : decode cX5_setPoint 56 = .ok (.bipush 21, 2) := by decide +kernel
theorem dX5_setPoint_58 : decode cX5_setPoint 58 = .ok (.iload_n 1, 1) := by decide +kernel
theorem dX5_setPoint_59 : decode cX5_setPoint 59 = .ok (.imul, 1) := by decide +kernel
theorem dX5_setPoint_60 : decode cX5_setPoint 60 = .ok (.iadd, 1) := by decide +kernel
theorem dX5_setPoint_61 : decode cX5_setPoint 61 = .ok (.iload_n 2, 1) := by decide +kernel
theorem dX5_setPoint_62 : decode cX5_setPoint 62 = .ok (.iadd, 1) := by decide +kernel
theorem dX5_setPoint_63 : decode cX5_setPoint 63 = .ok (.iload_n 3, 1) := by decide +kernel
theorem dX5_setPoint_64 : decode cX5_setPoint 64 = .ok (.iconst 1, 1) := by decide +kernel
theorem dX5_setPoint_65 : decode cX5_setPoint 65 = .ok (.iadd, 1) := by decide +kernel
theorem dX5_setPoint_66 : decode cX5_setPoint 66 = .ok (.iastore, 1) := by decide +kernel
theorem dX5_setPoint_67 : decode cX5_setPoint 67 = .ok (.aload_n 0, 1) := by decide +kernel
theorem dX5_setPoint_68 : decode cX5_setPoint 68 = .ok (.iload_n 1, 1) := by decide +kernel
theorem dX5_setPoint_69 : decode cX5_setPoint 69 = .ok (.invokevirtual 38, 3) := by decide +kernel
theorem dX5_setPoint_72 : decode cX5_setPoint 72 = .ok (.ireturn, 1) := by decide +kernel
theorem dX5_drafted_0 : decode cX5_drafted 0 = .ok (.bipush 19, 2) := by decide +kernel
theorem dX5_drafted_2 : decode cX5_drafted 2 = .ok (.bipush 21, 2) := by decide +kernel
theorem dX5_drafted_4 : decode cX5_drafted 4 = .ok (.iload_n 1, 1) := by decide +kernel
theorem dX5_drafted_5 : decode cX5_drafted 5 = .ok (.imul, 1) := by decide +kernel
theorem dX5_drafted_6 : decode cX5_drafted 6 = .ok (.iadd, 1) := by decide +kernel
theorem dX5_drafted_7 : decode cX5_drafted 7 = .ok (.istore_n 3, 1) := by decide +kernel
theorem dX5_drafted_8 : decode cX5_drafted 8 = .ok (.iload_n 2, 1) := by decide +kernel
theorem dX5_drafted_9 : decode cX5_drafted 9 = .ok (.istore 4, 2) := by decide +kernel
theorem dX5_drafted_11 : decode cX5_drafted 11 = .ok (.iload 4, 2) := by decide +kernel
theorem dX5_drafted_13 : decode cX5_drafted 13 = .ok (.ifCond .lt 21, 3) := by decide +kernel
theorem dX5_drafted_16 : decode cX5_drafted 16 = .ok (.aload_n 0, 1) := by decide +kernel
theorem dX5_drafted_17 : decode cX5_drafted 17 = .ok (.getfield 7, 3) := by decide +kernel
theorem dX5_drafted_20 : decode cX5_drafted 20 = .ok (.iload_n 3, 1) := by decide +kernel
theorem dX5_drafted_21 : decode cX5_drafted 21 = .ok (.iload 4, 2) := by decide +kernel
theorem dX5_drafted_23 : decode cX5_drafted 23 = .ok (.iadd, 1) := by decide +kernel
theorem dX5_drafted_24 : decode cX5_drafted 24 = .ok (.iaload, 1) := by decide +kernel
theorem dX5_drafted_25 : decode cX5_drafted 25 = .ok (.ifCond .ne 9, 3) := by decide +kernel
theorem dX5_drafted_28 : decode cX5_drafted 28 = .ok (.iinc 4 (-1), 3) := by decide +kernel
theorem dX5_drafted_31 : decode cX5_drafted 31 = .ok (.goto (-20), 3) := by decide +kernel
theorem dX5_drafted_34 : decode cX5_drafted 34 = .ok (.iload_n 2, 1) := by decide +kernel
theorem dX5_drafted_35 : decode cX5_drafted 35 = .ok (.istore 5, 2) := by decide +kernel
theorem dX5_drafted_37 : decode cX5_drafted 37 = .ok (.iload 5, 2) := by decide +kernel
theorem dX5_drafted_39 : decode cX5_drafted 39 = .ok (.bipush 21, 2) := by decide +kernel
theorem dX5_drafted_41 : decode cX5_drafted 41 = .ok (.if_icmp .ge 21, 3) := by decide +kernel
theorem dX5_drafted_44 : decode cX5_drafted 44 = .ok (.aload_n 0, 1) := by decide +kernel
theorem dX5_drafted_45 : decode cX5_drafted 45 = .ok (.getfield 7, 3) := by decide +kernel
theorem dX5_drafted_48 : decode cX5_drafted 48 = .ok (.iload_n 3, 1) := by decide +kernel
theorem dX5_drafted_49 : decode cX5_drafted 49 = .ok (.iload 5, 2) := by decide +kernel
theorem dX5_drafted_51 : decode cX5_drafted 51 = .ok (.iadd, 1) := by decide +kernel
theorem dX5_drafted_52 : decode cX5_drafted 52 = .ok (.iaload, 1) := by decide +kernel
theorem dX5_drafted_53 : decode cX5_drafted 53 = .ok (.ifCond .ne 9, 3) := by decide +kernel
theorem dX5_drafted_56 : decode cX5_drafted 56 = .ok (.iinc 5 1, 3) := by decide +kernel
theorem dX5_drafted_59 : decode cX5_drafted 59 = .ok (.goto (-22), 3) := by decide +kernel
theorem dX5_drafted_62 : decode cX5_drafted 62 = .ok (.iload 4, 2) := by decide +kernel
theorem dX5_drafted_64 : decode cX5_drafted 64 = .ok (.ifCond .lt 17, 3) := by decide +kernel
theorem dX5_drafted_67 : decode cX5_drafted 67 = .ok (.iload 5, 2) := by decide +kernel
theorem dX5_drafted_69 : decode cX5_drafted 69 = .ok (.bipush 20, 2) := by decide +kernel
theorem dX5_drafted_71 : decode cX5_drafted 71 = .ok (.if_icmp .gt 10, 3) := by decide +kernel
theorem dX5_drafted_74 : decode cX5_drafted 74 = .ok (.iload 4, 2) := by decide +kernel
theorem dX5_drafted_76 : decode cX5_drafted 76 = .ok (.iload 5, 2) := by decide +kernel
theorem dX5_drafted_78 : decode cX5_drafted 78 = .ok (.if_icmp .ne 25, 3) := by decide +kernel
theorem dX5_drafted_81 : decode cX5_drafted 81 = .ok (.aload_n 0, 1) := by decide +kernel
theorem dX5_drafted_82 : decode cX5_drafted 82 = .ok (.getfield 7, 3) := by decide +kernel
theorem dX5_drafted_85 : decode cX5_drafted 85 = .ok (.iload_n 3, 1) := by decide +kernel
theorem dX5_drafted_86 : decode cX5_drafted 86 = .ok (.iload 4, 2) := by decide +kernel
theorem dX5_drafted_88 : decode cX5_drafted 88 = .ok (.ifCond .ge 8, 3) := by decide +kernel
theorem dX5_drafted_91 : decode cX5_drafted 91 = .ok (.iload 5, 2) := by decide +kernel
theorem dX5_drafted_93 : decode cX5_drafted 93 = .ok (.goto 5, 3) := by decide +kernel
theorem dX5_drafted_96 : decode cX5_drafted 96 = .ok (.iload 4, 2) := by decide +kernel
theorem dX5_drafted_98 : decode cX5_drafted 98 = .ok (.iadd, 1) := by decide +kernel
theorem dX5_drafted_99 : decode cX5_drafted 99 = .ok (.iaload, 1) := by decide +kernel
theorem dX5_drafted_100 : decode cX5_drafted 100 = .ok (.iconst 1, 1) := by decide +kernel
theorem dX5_drafted_101 : decode cX5_drafted 101 = .ok (.isub, 1) := by decide +kernel
theorem dX5_drafted_102 : decode cX5_drafted 102 = .ok (.ireturn, 1) := by decide +kernel
theorem dX5_drafted_103 : decode cX5_drafted 103 = .ok (.aload_n 0, 1) := by decide +kernel
theorem dX5_drafted_104 : decode cX5_drafted 104 = .ok (.getfield 7, 3) := by decide +kernel
theorem dX5_drafted_107 : decode cX5_drafted 107 = .ok (.iload_n 3, 1) := by decide +kernel
theorem dX5_drafted_108 : decode cX5_drafted 108 = .ok (.iload 4, 2) := by decide +kernel
theorem dX5_drafted_110 : decode cX5_drafted 110 = .ok (.iadd, 1) := by decide +kernel
theorem dX5_drafted_111 : decode cX5_drafted 111 = .ok (.iaload, 1) := by decide +kernel
theorem dX5_drafted_112 : decode cX5_drafted 112 = .ok (.istore 6, 2) := by decide +kernel
theorem dX5_drafted_114 : decode cX5_drafted 114 = .ok (.iload 6, 2) := by decide +kernel
theorem dX5_drafted_116 : decode cX5_drafted 116 = .ok (.iconst 1, 1) := by decide +kernel
theorem dX5_drafted_117 : decode cX5_drafted 117 = .ok (.isub, 1) := by decide +kernel
theorem dX5_drafted_118 : decode cX5_drafted 118 = .ok (.aload_n 0, 1) := by decide +kernel
theorem dX5_drafted_119 : decode cX5_drafted 119 = .ok (.getfield 7, 3) := by decide +kernel
theorem dX5_drafted_122 : decode cX5_drafted 122 = .ok (.iload_n 3, 1) := by decide +kernel
theorem dX5_drafted_123 : decode cX5_drafted 123 = .ok (.iload 5, 2) := by decide +kernel
theorem dX5_drafted_125 : decode cX5_drafted 125 = .ok (.iadd, 1) := by decide +kernel
theorem dX5_drafted_126 : decode cX5_drafted 126 = .ok (.iaload, 1) := by decide +kernel
theorem dX5_drafted_127 : decode cX5_drafted 127 = .ok (.iload 6, 2) := by decide +kernel
theorem dX5_drafted_129 : decode cX5_drafted 129 = .ok (.isub, 1) := by decide +kernel
theorem dX5_drafted_130 : decode cX5_drafted 130 = .ok (.i2l, 1) := by decide +kernel
theorem dX5_drafted_131 : decode cX5_drafted 131 = .ok (.iload_n 2, 1) := by decide +kernel
theorem dX5_drafted_132 : decode cX5_drafted 132 = .ok (.iload 4, 2) := by decide +kernel
theorem dX5_drafted_134 : decode cX5_drafted 134 = .ok (.isub, 1) := by decide +kernel
theorem dX5_drafted_135 : decode cX5_drafted 135 = .ok (.i2l, 1) := by decide +kernel
theorem dX5_drafted_136 : decode cX5_drafted 136 = .ok (.lmul, 1) := by decide +kernel
theorem dX5_drafted_137 : decode cX5_drafted 137 = .ok (.iload 5, 2) := by decide +kernel
theorem dX5_drafted_139 : decode cX5_drafted 139 = .ok (.iload 4, 2) := by decide +kernel
theorem dX5_drafted_141 : decode cX5_drafted 141 = .ok (.isub, 1) := by decide +kernel
theorem dX5_drafted_142 : decode cX5_drafted 142 = .ok (.i2l, 1) := by decide +kernel
theorem dX5_drafted_143 : decode cX5_drafted 143 = .ok (.invokestatic 42, 3) := by decide +kernel
theorem dX5_drafted_146 : decode cX5_drafted 146 = .ok (.l2i, 1) := by decide +kernel
theorem dX5_drafted_147 : decode cX5_drafted 147 = .ok (.iadd, 1) := by decide +kernel
theorem dX5_drafted_148 : decode cX5_drafted 148 = .ok (.ireturn, 1) := by decide +kernel
theorem dX5_isCard_0 : decode cX5_isCard 0 = .ok (.iload_n 1, 1) := by decide +kernel
theorem dX5_isCard_1 : decode cX5_isCard 1 = .ok (.iconst 0, 1) := by decide +kernel
theorem dX5_isCard_2 : decode cX5_isCard 2 = .ok (.aload_n 0, 1) := by decide +kernel
theorem dX5_isCard_3 : decode cX5_isCard 3 = .ok (.getfield 7, 3) := by decide +kernel
theorem dX5_isCard_6 : decode cX5_isCard 6 = .ok (.bipush 61, 2) := by decide +kernel
theorem dX5_isCard_8 : decode cX5_isCard 8 = .ok (.iaload, 1) := by decide +kernel
theorem dX5_isCard_9 : decode cX5_isCard 9 = .ok (.iconst 1, 1) := by decide +kernel
theorem dX5_isCard_10 : decode cX5_isCard 10 = .ok (.isub, 1) := by decide +kernel
theorem dX5_isCard_11 : decode cX5_isCard 11 = .ok (.invokestatic 13, 3) := by decide +kernel
theorem dX5_isCard_14 : decode cX5_isCard 14 = .ok (.ireturn, 1) := by decide +kernel
theorem dX5_endAt_0 : decode cX5_endAt 0 = .ok (.bipush 62, 2) := by decide +kernel
theorem dX5_endAt_2 : decode cX5_endAt 2 = .ok (.bipush 44, 2) := by decide +kernel
theorem dX5_endAt_4 : decode cX5_endAt 4 = .ok (.iload_n 0, 1) := by decide +kernel
theorem dX5_endAt_5 : decode cX5_endAt 5 = .ok (.imul, 1) := by decide +kernel
theorem dX5_endAt_6 : decode cX5_endAt 6 = .ok (.iadd, 1) := by decide +kernel
theorem dX5_endAt_7 : decode cX5_endAt 7 = .ok (.ireturn, 1) := by decide +kernel
theorem dX5_at_0 : decode cX5_at 0 = .ok (.bipush 62, 2) := by decide +kernel
theorem dX5_at_2 : decode cX5_at 2 = .ok (.bipush 44, 2) := by decide +kernel
theorem dX5_at_4 : decode cX5_at 4 = .ok (.iload_n 0, 1) := by decide +kernel
theorem dX5_at_5 : decode cX5_at 5 = .ok (.imul, 1) := by decide +kernel
theorem dX5_at_6 : decode cX5_at 6 = .ok (.iadd, 1) := by decide +kernel
theorem dX5_at_7 : decode cX5_at 7 = .ok (.iconst 2, 1) := by decide +kernel
theorem dX5_at_8 : decode cX5_at 8 = .ok (.iadd, 1) := by decide +kernel
theorem dX5_at_9 : decode cX5_at 9 = .ok (.ireturn, 1) := by decide +kernel
theorem dX5_addCard_0 : decode cX5_addCard 0 = .ok (.aload_n 0, 1) := by decide +kernel
theorem dX5_addCard_1 : decode cX5_addCard 1 = .ok (.getfield 7, 3) := by decide +kernel
theorem dX5_addCard_4 : decode cX5_addCard 4 = .ok (.bipush 61, 2) := by decide +kernel
theorem dX5_addCard_6 : decode cX5_addCard 6 = .ok (.iaload, 1) := by decide +kernel
theorem dX5_addCard_7 : decode cX5_addCard 7 = .ok (.istore_n 3, 1) := by decide +kernel
theorem dX5_addCard_8 : decode cX5_addCard 8 = .ok (.aload_n 0, 1) := by decide +kernel
theorem dX5_addCard_9 : decode cX5_addCard 9 = .ok (.getfield 7, 3) := by decide +kernel
theorem dX5_addCard_12 : decode cX5_addCard 12 = .ok (.iload_n 3, 1) := by decide +kernel
theorem dX5_addCard_13 : decode cX5_addCard 13 = .ok (.invokestatic 46, 3) := by decide +kernel
theorem dX5_addCard_16 : decode cX5_addCard 16 = .ok (.iload_n 1, 1) := by decide +kernel
theorem dX5_addCard_17 : decode cX5_addCard 17 = .ok (.iastore, 1) := by decide +kernel
theorem dX5_addCard_18 : decode cX5_addCard 18 = .ok (.aload_n 0, 1) := by decide +kernel
theorem dX5_addCard_19 : decode cX5_addCard 19 = .ok (.getfield 7, 3) := by decide +kernel
theorem dX5_addCard_22 : decode cX5_addCard 22 = .ok (.iload_n 3, 1) := by decide +kernel
theorem dX5_addCard_23 : decode cX5_addCard 23 = .ok (.invokestatic 46, 3) := by decide +kernel
theorem dX5_addCard_26 : decode cX5_addCard 26 = .ok (.iconst 1, 1) := by decide +kernel
theorem dX5_addCard_27 : decode cX5_addCard 27 = .ok (.iadd, 1) := by decide +kernel
theorem dX5_addCard_28 : decode cX5_addCard 28 = .ok (.iload_n 2, 1) := by decide +kernel
theorem dX5_addCard_29 : decode cX5_addCard 29 = .ok (.iastore, 1) := by decide +kernel
theorem dX5_addCard_30 : decode cX5_addCard 30 = .ok (.iconst 0, 1) := by decide +kernel
theorem dX5_addCard_31 : decode cX5_addCard 31 = .ok (.istore 4, 2) := by decide +kernel
theorem dX5_addCard_33 : decode cX5_addCard 33 = .ok (.iload 4, 2) := by decide +kernel
theorem dX5_addCard_35 : decode cX5_addCard 35 = .ok (.bipush 42, 2) := by decide +kernel
theorem dX5_addCard_37 : decode cX5_addCard 37 = .ok (.if_icmp .ge 32, 3) := by decide +kernel
theorem dX5_addCard_40 : decode cX5_addCard 40 = .ok (.aload_n 0, 1) := by decide +kernel
theorem dX5_addCard_41 : decode cX5_addCard 41 = .ok (.getfield 7, 3) := by decide +kernel
theorem dX5_addCard_44 : decode cX5_addCard 44 = .ok (.iload_n 3, 1) := by decide +kernel
theorem dX5_addCard_45 : decode cX5_addCard 45 = .ok (.invokestatic 49, 3) := by decide +kernel
theorem dX5_addCard_48 : decode cX5_addCard 48 = .ok (.iload 4, 2) := by decide +kernel
theorem dX5_addCard_50 : decode cX5_addCard 50 = .ok (.iadd, 1) := by decide +kernel
theorem dX5_addCard_51 : decode cX5_addCard 51 = .ok (.aload_n 0, 1) := by decide +kernel
theorem dX5_addCard_52 : decode cX5_addCard 52 = .ok (.getfield 7, 3) := by decide +kernel
theorem dX5_addCard_55 : decode cX5_addCard 55 = .ok (.sipush 2510, 3) := by decide +kernel
theorem dX5_addCard_58 : decode cX5_addCard 58 = .ok (.iload 4, 2) := by decide +kernel
theorem dX5_addCard_60 : decode cX5_addCard 60 = .ok (.iadd, 1) := by decide +kernel
theorem dX5_addCard_61 : decode cX5_addCard 61 = .ok (.iaload, 1) := by decide +kernel
theorem dX5_addCard_62 : decode cX5_addCard 62 = .ok (.iastore, 1) := by decide +kernel
theorem dX5_addCard_63 : decode cX5_addCard 63 = .ok (.iinc 4 1, 3) := by decide +kernel
theorem dX5_addCard_66 : decode cX5_addCard 66 = .ok (.goto (-33), 3) := by decide +kernel
theorem dX5_addCard_69 : decode cX5_addCard 69 = .ok (.aload_n 0, 1) := by decide +kernel
theorem dX5_addCard_70 : decode cX5_addCard 70 = .ok (.getfield 7, 3) := by decide +kernel
theorem dX5_addCard_73 : decode cX5_addCard 73 = .ok (.bipush 61, 2) := by decide +kernel
theorem dX5_addCard_75 : decode cX5_addCard 75 = .ok (.dup2, 1) := by decide +kernel
theorem dX5_addCard_76 : decode cX5_addCard 76 = .ok (.iaload, 1) := by decide +kernel
theorem dX5_addCard_77 : decode cX5_addCard 77 = .ok (.iconst 1, 1) := by decide +kernel
theorem dX5_addCard_78 : decode cX5_addCard 78 = .ok (.iadd, 1) := by decide +kernel
theorem dX5_addCard_79 : decode cX5_addCard 79 = .ok (.iastore, 1) := by decide +kernel
theorem dX5_addCard_80 : decode cX5_addCard 80 = .ok (.iload_n 3, 1) := by decide +kernel
theorem dX5_addCard_81 : decode cX5_addCard 81 = .ok (.ireturn, 1) := by decide +kernel
theorem dX5_finishCard_0 : decode cX5_finishCard 0 = .ok (.aload_n 0, 1) := by decide +kernel
theorem dX5_finishCard_1 : decode cX5_finishCard 1 = .ok (.getfield 7, 3) := by decide +kernel
theorem dX5_finishCard_4 : decode cX5_finishCard 4 = .ok (.bipush 16, 2) := by decide +kernel
theorem dX5_finishCard_6 : decode cX5_finishCard 6 = .ok (.iaload, 1) := by decide +kernel
theorem dX5_finishCard_7 : decode cX5_finishCard 7 = .ok (.ifCond .eq 19, 3) := by decide +kernel
theorem dX5_finishCard_10 : decode cX5_finishCard 10 = .ok (.aload_n 0, 1) := by decide +kernel
theorem dX5_finishCard_11 : decode cX5_finishCard 11 = .ok (.iconst 0, 1) := by decide +kernel
theorem dX5_finishCard_12 : decode cX5_finishCard 12 = .ok (.invokevirtual 38, 3) := by decide +kernel
theorem dX5_finishCard_15 : decode cX5_finishCard 15 = .ok (.ifCond .eq 11, 3) := by decide +kernel
theorem dX5_finishCard_18 : decode cX5_finishCard 18 = .ok (.aload_n 0, 1) := by decide +kernel
theorem dX5_finishCard_19 : decode cX5_finishCard 19 = .ok (.iconst 1, 1) := by decide +kernel
theorem dX5_finishCard_20 : decode cX5_finishCard 20 = .ok (.invokevirtual 38, 3) := by decide +kernel
theorem dX5_finishCard_23 : decode cX5_finishCard 23 = .ok (.ifCond .ne 6, 3) := by decide +kernel
theorem dX5_finishCard_26 : decode cX5_finishCard 26 = .ok (.ldc 25, 2) := by decide +kernel
theorem dX5_finishCard_28 : decode cX5_finishCard 28 = .ok (.ireturn, 1) := by decide +kernel
theorem dX5_finishCard_29 : decode cX5_finishCard 29 = .ok (.aload_n 0, 1) := by decide +kernel
theorem dX5_finishCard_30 : decode cX5_finishCard 30 = .ok (.getfield 7, 3) := by decide +kernel
theorem dX5_finishCard_33 : decode cX5_finishCard 33 = .ok (.bipush 61, 2) := by decide +kernel
theorem dX5_finishCard_35 : decode cX5_finishCard 35 = .ok (.iaload, 1) := by decide +kernel
theorem dX5_finishCard_36 : decode cX5_finishCard 36 = .ok (.bipush 10, 2) := by decide +kernel
theorem dX5_finishCard_38 : decode cX5_finishCard 38 = .ok (.if_icmp .ne 6, 3) := by decide +kernel
theorem dX5_finishCard_41 : decode cX5_finishCard 41 = .ok (.ldc 52, 2) := by decide +kernel
theorem dX5_finishCard_43 : decode cX5_finishCard 43 = .ok (.ireturn, 1) := by decide +kernel
theorem dX5_finishCard_44 : decode cX5_finishCard 44 = .ok (.aload_n 0, 1) := by decide +kernel
theorem dX5_finishCard_45 : decode cX5_finishCard 45 = .ok (.invokevirtual 27, 3) := by decide +kernel
theorem dX5_finishCard_48 : decode cX5_finishCard 48 = .ok (.iconst 0, 1) := by decide +kernel
theorem dX5_finishCard_49 : decode cX5_finishCard 49 = .ok (.istore_n 1, 1) := by decide +kernel
theorem dX5_finishCard_50 : decode cX5_finishCard 50 = .ok (.iload_n 1, 1) := by decide +kernel
theorem dX5_finishCard_51 : decode cX5_finishCard 51 = .ok (.bipush 42, 2) := by decide +kernel
theorem dX5_finishCard_53 : decode cX5_finishCard 53 = .ok (.if_icmp .ge 31, 3) := by decide +kernel
theorem dX5_finishCard_56 : decode cX5_finishCard 56 = .ok (.aload_n 0, 1) := by decide +kernel
theorem dX5_finishCard_57 : decode cX5_finishCard 57 = .ok (.getfield 7, 3) := by decide +kernel
theorem dX5_finishCard_60 : decode cX5_finishCard 60 = .ok (.sipush 2510, 3) := by decide +kernel
theorem dX5_finishCard_63 : decode cX5_finishCard 63 = .ok (.iload_n 1, 1) := by decide +kernel
theorem dX5_finishCard_64 : decode cX5_finishCard 64 = .ok (.iadd, 1) := by decide +kernel
theorem dX5_finishCard_65 : decode cX5_finishCard 65 = .ok (.aload_n 0, 1) := by decide +kernel
theorem dX5_finishCard_66 : decode cX5_finishCard 66 = .ok (.iload_n 1, 1) := by decide +kernel
theorem dX5_finishCard_67 : decode cX5_finishCard 67 = .ok (.bipush 21, 2) := by decide +kernel
theorem dX5_finishCard_69 : decode cX5_finishCard 69 = .ok (.idiv, 1) := by decide +kernel
theorem dX5_finishCard_70 : decode cX5_finishCard 70 = .ok (.iload_n 1, 1) := by decide +kernel
theorem dX5_finishCard_71 : decode cX5_finishCard 71 = .ok (.bipush 21, 2) := by decide +kernel
theorem dX5_finishCard_73 : decode cX5_finishCard 73 = .ok (.irem, 1) := by decide +kernel
theorem dX5_finishCard_74 : decode cX5_finishCard 74 = .ok (.invokevirtual 53, 3) := by decide +kernel
theorem dX5_finishCard_77 : decode cX5_finishCard 77 = .ok (.iastore, 1) := by decide +kernel
theorem dX5_finishCard_78 : decode cX5_finishCard 78 = .ok (.iinc 1 1, 3) := by decide +kernel
theorem dX5_finishCard_81 : decode cX5_finishCard 81 = .ok (.goto (-31), 3) := by decide +kernel
theorem dX5_finishCard_84 : decode cX5_finishCard 84 = .ok (.aload_n 0, 1) := by decide +kernel
theorem dX5_finishCard_85 : decode cX5_finishCard 85 = .ok (.getfield 7, 3) := by decide +kernel
theorem dX5_finishCard_88 : decode cX5_finishCard 88 = .ok (.bipush 16, 2) := by decide +kernel
theorem dX5_finishCard_90 : decode cX5_finishCard 90 = .ok (.iconst 0, 1) := by decide +kernel
theorem dX5_finishCard_91 : decode cX5_finishCard 91 = .ok (.iastore, 1) := by decide +kernel
theorem dX5_finishCard_92 : decode cX5_finishCard 92 = .ok (.aload_n 0, 1) := by decide +kernel
theorem dX5_finishCard_93 : decode cX5_finishCard 93 = .ok (.aload_n 0, 1) := by decide +kernel
theorem dX5_finishCard_94 : decode cX5_finishCard 94 = .ok (.getfield 7, 3) := by decide +kernel
theorem dX5_finishCard_97 : decode cX5_finishCard 97 = .ok (.bipush 17, 2) := by decide +kernel
theorem dX5_finishCard_99 : decode cX5_finishCard 99 = .ok (.iaload, 1) := by decide +kernel
theorem dX5_finishCard_100 : decode cX5_finishCard 100 = .ok (.aload_n 0, 1) := by decide +kernel
theorem dX5_finishCard_101 : decode cX5_finishCard 101 = .ok (.getfield 7, 3) := by decide +kernel
theorem dX5_finishCard_104 : decode cX5_finishCard 104 = .ok (.bipush 18, 2) := by decide +kernel
theorem dX5_finishCard_106 : decode cX5_finishCard 106 = .ok (.iaload, 1) := by decide +kernel
theorem dX5_finishCard_107 : decode cX5_finishCard 107 = .ok (.invokevirtual 57, 3) := by decide +kernel
theorem dX5_finishCard_110 : decode cX5_finishCard 110 = .ok (.ireturn, 1) := by decide +kernel
theorem dX5_draw_0 : decode cX5_draw 0 = .ok (.aload_n 0, 1) := by decide +kernel
theorem dX5_draw_1 : decode cX5_draw 1 = .ok (.getfield 7, 3) := by decide +kernel
theorem dX5_draw_4 : decode cX5_draw 4 = .ok (.iconst 5, 1) := by decide +kernel
theorem dX5_draw_5 : decode cX5_draw 5 = .ok (.iaload, 1) := by decide +kernel
theorem dX5_draw_6 : decode cX5_draw 6 = .ok (.istore 6, 2) := by decide +kernel
theorem dX5_draw_8 : decode cX5_draw 8 = .ok (.aload_n 0, 1) := by decide +kernel
theorem dX5_draw_9 : decode cX5_draw 9 = .ok (.getfield 7, 3) := by decide +kernel
theorem dX5_draw_12 : decode cX5_draw 12 = .ok (.iconst 4, 1) := by decide +kernel
theorem dX5_draw_13 : decode cX5_draw 13 = .ok (.iaload, 1) := by decide +kernel
theorem dX5_draw_14 : decode cX5_draw 14 = .ok (.i2l, 1) := by decide +kernel
theorem dX5_draw_15 : decode cX5_draw 15 = .ok (.aload_n 0, 1) := by decide +kernel
theorem dX5_draw_16 : decode cX5_draw 16 = .ok (.iload_n 2, 1) := by decide +kernel
theorem dX5_draw_17 : decode cX5_draw 17 = .ok (.invokevirtual 60, 3) := by decide +kernel
theorem dX5_draw_20 : decode cX5_draw 20 = .ok (.i2l, 1) := by decide +kernel
theorem dX5_draw_21 : decode cX5_draw 21 = .ok (.lmul, 1) := by decide +kernel
theorem dX5_draw_22 : decode cX5_draw 22 = .ok (.lstore 7, 2) := by decide +kernel
theorem dX5_draw_24 : decode cX5_draw 24 = .ok (.aload_n 0, 1) := by decide +kernel
theorem dX5_draw_25 : decode cX5_draw 25 = .ok (.getfield 7, 3) := by decide +kernel
theorem dX5_draw_28 : decode cX5_draw 28 = .ok (.iconst 4, 1) := by decide +kernel
theorem dX5_draw_29 : decode cX5_draw 29 = .ok (.iaload, 1) := by decide +kernel
theorem dX5_draw_30 : decode cX5_draw 30 = .ok (.istore 9, 2) := by decide +kernel
theorem dX5_draw_32 : decode cX5_draw 32 = .ok (.iconst 0, 1) := by decide +kernel
theorem dX5_draw_33 : decode cX5_draw 33 = .ok (.istore 10, 2) := by decide +kernel
theorem dX5_draw_35 : decode cX5_draw 35 = .ok (.iload 10, 2) := by decide +kernel
theorem dX5_draw_37 : decode cX5_draw 37 = .ok (.bipush 21, 2) := by decide +kernel
theorem dX5_draw_39 : decode cX5_draw 39 = .ok (.if_icmp .ge 185, 3) := by decide +kernel
theorem dX5_draw_42 : decode cX5_draw 42 = .ok (.iload 10, 2) := by decide +kernel
theorem dX5_draw_44 : decode cX5_draw 44 = .ok (.iload_n 1, 1) := by decide +kernel
theorem dX5_draw_45 : decode cX5_draw 45 = .ok (.if_icmp .ge 19, 3) := by decide +kernel
theorem dX5_draw_48 : decode cX5_draw 48 = .ok (.aload_n 0, 1) := by decide +kernel
theorem dX5_draw_49 : decode cX5_draw 49 = .ok (.getfield 7, 3) := by decide +kernel
theorem dX5_draw_52 : decode cX5_draw 52 = .ok (.sipush 2510, 3) := by decide +kernel
theorem dX5_draw_55 : decode cX5_draw 55 = .ok (.iload 10, 2) := by decide +kernel
theorem dX5_draw_57 : decode cX5_draw 57 = .ok (.iadd, 1) := by decide +kernel
theorem dX5_draw_58 : decode cX5_draw 58 = .ok (.iload 6, 2) := by decide +kernel
theorem dX5_draw_60 : decode cX5_draw 60 = .ok (.iastore, 1) := by decide +kernel
theorem dX5_draw_61 : decode cX5_draw 61 = .ok (.goto 118, 3) := by decide +kernel
theorem dX5_draw_64 : decode cX5_draw 64 = .ok (.iload 10, 2) := by decide +kernel
theorem dX5_draw_66 : decode cX5_draw 66 = .ok (.iload_n 2, 1) := by decide +kernel
theorem dX5_draw_67 : decode cX5_draw 67 = .ok (.if_icmp .gt 23, 3) := by decide +kernel
theorem dX5_draw_70 : decode cX5_draw 70 = .ok (.aload_n 0, 1) := by decide +kernel
theorem dX5_draw_71 : decode cX5_draw 71 = .ok (.getfield 7, 3) := by decide +kernel
theorem dX5_draw_74 : decode cX5_draw 74 = .ok (.sipush 2510, 3) := by decide +kernel
theorem dX5_draw_77 : decode cX5_draw 77 = .ok (.iload 10, 2) := by decide +kernel
theorem dX5_draw_79 : decode cX5_draw 79 = .ok (.iadd, 1) := by decide +kernel
theorem dX5_draw_80 : decode cX5_draw 80 = .ok (.aload_n 0, 1) := by decide +kernel
theorem dX5_draw_81 : decode cX5_draw 81 = .ok (.getfield 7, 3) := by decide +kernel
theorem dX5_draw_84 : decode cX5_draw 84 = .ok (.iconst 4, 1) := by decide +kernel
theorem dX5_draw_85 : decode cX5_draw 85 = .ok (.iaload, 1) := by decide +kernel
theorem dX5_draw_86 : decode cX5_draw 86 = .ok (.iastore, 1) := by decide +kernel
theorem dX5_draw_87 : decode cX5_draw 87 = .ok (.goto 92, 3) := by decide +kernel
theorem dX5_draw_90 : decode cX5_draw 90 = .ok (.iload 10, 2) := by decide +kernel
theorem dX5_draw_92 : decode cX5_draw 92 = .ok (.iload_n 3, 1) := by decide +kernel
theorem dX5_draw_93 : decode cX5_draw 93 = .ok (.if_icmp .ge 49, 3) := by decide +kernel
theorem dX5_draw_96 : decode cX5_draw 96 = .ok (.lload 7, 2) := by decide +kernel
theorem dX5_draw_98 : decode cX5_draw 98 = .ok (.lload 7, 2) := by decide +kernel
theorem dX5_draw_100 : decode cX5_draw 100 = .ok (.iload 5, 2) := by decide +kernel
theorem dX5_draw_102 : decode cX5_draw 102 = .ok (.i2l, 1) := by decide +kernel
theorem dX5_draw_103 : decode cX5_draw 103 = .ok (.lmul, 1) := by decide +kernel
theorem dX5_draw_104 : decode cX5_draw 104 = .ok (.ldc2_w 63, 3) := by decide +kernel
theorem dX5_draw_107 : decode cX5_draw 107 = .ok (.invokestatic 42, 3) := by decide +kernel
theorem dX5_draw_110 : decode cX5_draw 110 = .ok (.ladd, 1) := by decide +kernel
theorem dX5_draw_111 : decode cX5_draw 111 = .ok (.lstore 7, 2) := by decide +kernel
theorem dX5_draw_113 : decode cX5_draw 113 = .ok (.lload 7, 2) := by decide +kernel
theorem dX5_draw_115 : decode cX5_draw 115 = .ok (.aload_n 0, 1) := by decide +kernel
theorem dX5_draw_116 : decode cX5_draw 116 = .ok (.iload 10, 2) := by decide +kernel
theorem dX5_draw_118 : decode cX5_draw 118 = .ok (.invokevirtual 60, 3) := by decide +kernel
theorem dX5_draw_121 : decode cX5_draw 121 = .ok (.i2l, 1) := by decide +kernel
theorem dX5_draw_122 : decode cX5_draw 122 = .ok (.ldiv, 1) := by decide +kernel
theorem dX5_draw_123 : decode cX5_draw 123 = .ok (.l2i, 1) := by decide +kernel
theorem dX5_draw_124 : decode cX5_draw 124 = .ok (.istore 9, 2) := by decide +kernel
theorem dX5_draw_126 : decode cX5_draw 126 = .ok (.aload_n 0, 1) := by decide +kernel
theorem dX5_draw_127 : decode cX5_draw 127 = .ok (.getfield 7, 3) := by decide +kernel
theorem dX5_draw_130 : decode cX5_draw 130 = .ok (.sipush 2510, 3) := by decide +kernel
theorem dX5_draw_133 : decode cX5_draw 133 = .ok (.iload 10, 2) := by decide +kernel
theorem dX5_draw_135 : decode cX5_draw 135 = .ok (.iadd, 1) := by decide +kernel
theorem dX5_draw_136 : decode cX5_draw 136 = .ok (.iload 9, 2) := by decide +kernel
theorem dX5_draw_138 : decode cX5_draw 138 = .ok (.iastore, 1) := by decide +kernel
theorem dX5_draw_139 : decode cX5_draw 139 = .ok (.goto 40, 3) := by decide +kernel
theorem dX5_draw_142 : decode cX5_draw 142 = .ok (.aload_n 0, 1) := by decide +kernel
theorem dX5_draw_143 : decode cX5_draw 143 = .ok (.getfield 7, 3) := by decide +kernel
theorem dX5_draw_146 : decode cX5_draw 146 = .ok (.sipush 2510, 3) := by decide +kernel
theorem dX5_draw_149 : decode cX5_draw 149 = .ok (.iload 10, 2) := by decide +kernel
theorem dX5_draw_151 : decode cX5_draw 151 = .ok (.iadd, 1) := by decide +kernel
theorem dX5_draw_152 : decode cX5_draw 152 = .ok (.iload 9, 2) := by decide +kernel
theorem dX5_draw_154 : decode cX5_draw 154 = .ok (.iload 6, 2) := by decide +kernel
theorem dX5_draw_156 : decode cX5_draw 156 = .ok (.iload 9, 2) := by decide +kernel
theorem dX5_draw_158 : decode cX5_draw 158 = .ok (.isub, 1) := by decide +kernel
theorem dX5_draw_159 : decode cX5_draw 159 = .ok (.i2l, 1) := by decide +kernel
theorem dX5_draw_160 : decode cX5_draw 160 = .ok (.iload 10, 2) := by decide +kernel
theorem dX5_draw_162 : decode cX5_draw 162 = .ok (.iload_n 3, 1) := by decide +kernel
theorem dX5_draw_163 : decode cX5_draw 163 = .ok (.isub, 1) := by decide +kernel
theorem dX5_draw_164 : decode cX5_draw 164 = .ok (.iconst 1, 1) := by decide +kernel
theorem dX5_draw_165 : decode cX5_draw 165 = .ok (.iadd, 1) := by decide +kernel
theorem dX5_draw_166 : decode cX5_draw 166 = .ok (.i2l, 1) := by decide +kernel
theorem dX5_draw_167 : decode cX5_draw 167 = .ok (.lmul, 1) := by decide +kernel
theorem dX5_draw_168 : decode cX5_draw 168 = .ok (.bipush 21, 2) := by decide +kernel
theorem dX5_draw_170 : decode cX5_draw 170 = .ok (.iload_n 3, 1) := by decide +kernel
theorem dX5_draw_171 : decode cX5_draw 171 = .ok (.isub, 1) := by decide +kernel
theorem dX5_draw_172 : decode cX5_draw 172 = .ok (.i2l, 1) := by decide +kernel
theorem dX5_draw_173 : decode cX5_draw 173 = .ok (.invokestatic 42, 3) := by decide +kernel
theorem dX5_draw_176 : decode cX5_draw 176 = .ok (.l2i, 1) := by decide +kernel
theorem dX5_draw_177 : decode cX5_draw 177 = .ok (.iadd, 1) := by decide +kernel
theorem dX5_draw_178 : decode cX5_draw 178 = .ok (.iastore, 1) := by decide +kernel
theorem dX5_draw_179 : decode cX5_draw 179 = .ok (.aload_n 0, 1) := by decide +kernel
theorem dX5_draw_180 : decode cX5_draw 180 = .ok (.getfield 7, 3) := by decide +kernel
theorem dX5_draw_183 : decode cX5_draw 183 = .ok (.sipush 2531, 3) := by decide +kernel
theorem dX5_draw_186 : decode cX5_draw 186 = .ok (.iload 10, 2) := by decide +kernel
theorem dX5_draw_188 : decode cX5_draw 188 = .ok (.iadd, 1) := by decide +kernel
theorem dX5_draw_189 : decode cX5_draw 189 = .ok (.iload 10, 2) := by decide +kernel
theorem dX5_draw_191 : decode cX5_draw 191 = .ok (.iload 4, 2) := by decide +kernel
theorem dX5_draw_193 : decode cX5_draw 193 = .ok (.if_icmp .ge 22, 3) := by decide +kernel
theorem dX5_draw_196 : decode cX5_draw 196 = .ok (.iload 6, 2) := by decide +kernel
theorem dX5_draw_198 : decode cX5_draw 198 = .ok (.aload_n 0, 1) := by decide +kernel
theorem dX5_draw_199 : decode cX5_draw 199 = .ok (.iload 4, 2) := by decide +kernel
theorem dX5_draw_201 : decode cX5_draw 201 = .ok (.invokevirtual 60, 3) := by decide +kernel
theorem dX5_draw_204 : decode cX5_draw 204 = .ok (.imul, 1) := by decide +kernel
theorem dX5_draw_205 : decode cX5_draw 205 = .ok (.aload_n 0, 1) := by decide +kernel
theorem dX5_draw_206 : decode cX5_draw 206 = .ok (.iload 10, 2) := by decide +kernel
theorem dX5_draw_208 : decode cX5_draw 208 = .ok (.invokevirtual 60, 3) := by decide +kernel
theorem dX5_draw_211 : decode cX5_draw 211 = .ok (.idiv, 1) := by decide +kernel
theorem dX5_draw_212 : decode cX5_draw 212 = .ok (.goto 5, 3) := by decide +kernel
theorem dX5_draw_215 : decode cX5_draw 215 = .ok (.iload 6, 2) := by decide +kernel
theorem dX5_draw_217 : decode cX5_draw 217 = .ok (.iastore, 1) := by decide +kernel
theorem dX5_draw_218 : decode cX5_draw 218 = .ok (.iinc 10 1, 3) := by decide +kernel
theorem dX5_draw_221 : decode cX5_draw 221 = .ok (.goto (-186), 3) := by decide +kernel
theorem dX5_draw_224 : decode cX5_draw 224 = .ok (.return_, 1) := by decide +kernel
theorem dX5_valveOf_0 : decode cX5_valveOf 0 = .ok (.aload_n 0, 1) := by decide +kernel
theorem dX5_valveOf_1 : decode cX5_valveOf 1 = .ok (.getfield 7, 3) := by decide +kernel
theorem dX5_valveOf_4 : decode cX5_valveOf 4 = .ok (.bipush 8, 2) := by decide +kernel
theorem dX5_valveOf_6 : decode cX5_valveOf 6 = .ok (.iconst 4, 1) := by decide +kernel
theorem dX5_valveOf_7 : decode cX5_valveOf 7 = .ok (.iload_n 1, 1) := by decide +kernel
theorem dX5_valveOf_8 : decode cX5_valveOf 8 = .ok (.imul, 1) := by decide +kernel
theorem dX5_valveOf_9 : decode cX5_valveOf 9 = .ok (.iadd, 1) := by decide +kernel
theorem dX5_valveOf_10 : decode cX5_valveOf 10 = .ok (.iload_n 2, 1) := by decide +kernel
theorem dX5_valveOf_11 : decode cX5_valveOf 11 = .ok (.iadd, 1) := by decide +kernel
theorem dX5_valveOf_12 : decode cX5_valveOf 12 = .ok (.iaload, 1) := by decide +kernel
theorem dX5_valveOf_13 : decode cX5_valveOf 13 = .ok (.ireturn, 1) := by decide +kernel
theorem dX5_addIdealCard_0 : decode cX5_addIdealCard 0 = .ok (.iload_n 1, 1) := by decide +kernel
theorem dX5_addIdealCard_1 : decode cX5_addIdealCard 1 = .ok (.invokestatic 34, 3) := by decide +kernel
theorem dX5_addIdealCard_4 : decode cX5_addIdealCard 4 = .ok (.ifCond .eq 36, 3) := by decide +kernel
theorem dX5_addIdealCard_7 : decode cX5_addIdealCard 7 = .ok (.iload_n 2, 1) := by decide +kernel
theorem dX5_addIdealCard_8 : decode cX5_addIdealCard 8 = .ok (.iconst 1, 1) := by decide +kernel
theorem dX5_addIdealCard_9 : decode cX5_addIdealCard 9 = .ok (.sipush 600, 3) := by decide +kernel
theorem dX5_addIdealCard_12 : decode cX5_addIdealCard 12 = .ok (.invokestatic 13, 3) := by decide +kernel
theorem dX5_addIdealCard_15 : decode cX5_addIdealCard 15 = .ok (.ifCond .eq 25, 3) := by decide +kernel
theorem dX5_addIdealCard_18 : decode cX5_addIdealCard 18 = .ok (.iload_n 3, 1) := by decide +kernel
theorem dX5_addIdealCard_19 : decode cX5_addIdealCard 19 = .ok (.bipush (-3), 2) := by decide +kernel
theorem dX5_addIdealCard_21 : decode cX5_addIdealCard 21 = .ok (.iconst 3, 1) := by decide +kernel
theorem dX5_addIdealCard_22 : decode cX5_addIdealCard 22 = .ok (.invokestatic 13, 3) := by decide +kernel
theorem dX5_addIdealCard_25 : decode cX5_addIdealCard 25 = .ok (.ifCond .eq 15, 3) := by decide +kernel
theorem dX5_addIdealCard_28 : decode cX5_addIdealCard 28 = .ok (.iload 4, 2) := by decide +kernel
theorem dX5_addIdealCard_30 : decode cX5_addIdealCard 30 = .ok (.bipush (-20), 2) := by decide +kernel
theorem dX5_addIdealCard_32 : decode cX5_addIdealCard 32 = .ok (.bipush 20, 2) := by decide +kernel
theorem dX5_addIdealCard_34 : decode cX5_addIdealCard 34 = .ok (.invokestatic 13, 3) := by decide +kernel
theorem dX5_addIdealCard_37 : decode cX5_addIdealCard 37 = .ok (.ifCond .ne 6, 3) := by decide +kernel
theorem dX5_addIdealCard_40 : decode cX5_addIdealCard 40 = .ok (.ldc 26, 2) := by decide +kernel
theorem dX5_addIdealCard_42 : decode cX5_addIdealCard 42 = .ok (.ireturn, 1) := by decide +kernel
theorem dX5_addIdealCard_43 : decode cX5_addIdealCard 43 = .ok (.aload_n 0, 1) := by decide +kernel
theorem dX5_addIdealCard_44 : decode cX5_addIdealCard 44 = .ok (.iload_n 1, 1) := by decide +kernel
theorem dX5_addIdealCard_45 : decode cX5_addIdealCard 45 = .ok (.iconst 0, 1) := by decide +kernel
theorem dX5_addIdealCard_46 : decode cX5_addIdealCard 46 = .ok (.invokevirtual 65, 3) := by decide +kernel
theorem dX5_addIdealCard_49 : decode cX5_addIdealCard 49 = .ok (.iload_n 3, 1) := by decide +kernel
theorem dX5_addIdealCard_50 : decode cX5_addIdealCard 50 = .ok (.iadd, 1) := by decide +kernel
theorem dX5_addIdealCard_51 : decode cX5_addIdealCard 51 = .ok (.istore 5, 2) := by decide +kernel
theorem dX5_addIdealCard_53 : decode cX5_addIdealCard 53 = .ok (.aload_n 0, 1) := by decide +kernel
theorem dX5_addIdealCard_54 : decode cX5_addIdealCard 54 = .ok (.iload_n 1, 1) := by decide +kernel
theorem dX5_addIdealCard_55 : decode cX5_addIdealCard 55 = .ok (.iconst 1, 1) := by decide +kernel
theorem dX5_addIdealCard_56 : decode cX5_addIdealCard 56 = .ok (.invokevirtual 65, 3) := by decide +kernel
theorem dX5_addIdealCard_59 : decode cX5_addIdealCard 59 = .ok (.iload_n 3, 1) := by decide +kernel
theorem dX5_addIdealCard_60 : decode cX5_addIdealCard 60 = .ok (.iadd, 1) := by decide +kernel
theorem dX5_addIdealCard_61 : decode cX5_addIdealCard 61 = .ok (.istore 6, 2) := by decide +kernel
theorem dX5_addIdealCard_63 : decode cX5_addIdealCard 63 = .ok (.aload_n 0, 1) := by decide +kernel
theorem dX5_addIdealCard_64 : decode cX5_addIdealCard 64 = .ok (.iload_n 1, 1) := by decide +kernel
theorem dX5_addIdealCard_65 : decode cX5_addIdealCard 65 = .ok (.iconst 2, 1) := by decide +kernel
theorem dX5_addIdealCard_66 : decode cX5_addIdealCard 66 = .ok (.invokevirtual 65, 3) := by decide +kernel
theorem dX5_addIdealCard_69 : decode cX5_addIdealCard 69 = .ok (.iload_n 3, 1) := by decide +kernel
theorem dX5_addIdealCard_70 : decode cX5_addIdealCard 70 = .ok (.iadd, 1) := by decide +kernel
theorem dX5_addIdealCard_71 : decode cX5_addIdealCard 71 = .ok (.istore 7, 2) := by decide +kernel
theorem dX5_addIdealCard_73 : decode cX5_addIdealCard 73 = .ok (.aload_n 0, 1) := by decide +kernel
theorem dX5_addIdealCard_74 : decode cX5_addIdealCard 74 = .ok (.iload_n 1, 1) := by decide +kernel
theorem dX5_addIdealCard_75 : decode cX5_addIdealCard 75 = .ok (.iconst 3, 1) := by decide +kernel
theorem dX5_addIdealCard_76 : decode cX5_addIdealCard 76 = .ok (.invokevirtual 65, 3) := by decide +kernel
theorem dX5_addIdealCard_79 : decode cX5_addIdealCard 79 = .ok (.iload_n 3, 1) := by decide +kernel
theorem dX5_addIdealCard_80 : decode cX5_addIdealCard 80 = .ok (.isub, 1) := by decide +kernel
theorem dX5_addIdealCard_81 : decode cX5_addIdealCard 81 = .ok (.istore 8, 2) := by decide +kernel
theorem dX5_addIdealCard_83 : decode cX5_addIdealCard 83 = .ok (.iload 5, 2) := by decide +kernel
theorem dX5_addIdealCard_85 : decode cX5_addIdealCard 85 = .ok (.iconst 0, 1) := by decide +kernel
theorem dX5_addIdealCard_86 : decode cX5_addIdealCard 86 = .ok (.bipush 8, 2) := by decide +kernel
theorem dX5_addIdealCard_88 : decode cX5_addIdealCard 88 = .ok (.invokestatic 13, 3) := by decide +kernel
theorem dX5_addIdealCard_91 : decode cX5_addIdealCard 91 = .ok (.ifCond .eq 36, 3) := by decide +kernel
theorem dX5_addIdealCard_94 : decode cX5_addIdealCard 94 = .ok (.iload 6, 2) := by decide +kernel
theorem dX5_addIdealCard_96 : decode cX5_addIdealCard 96 = .ok (.iconst 1, 1) := by decide +kernel
theorem dX5_addIdealCard_97 : decode cX5_addIdealCard 97 = .ok (.bipush 19, 2) := by decide +kernel
theorem dX5_addIdealCard_99 : decode cX5_addIdealCard 99 = .ok (.invokestatic 13, 3) := by decide +kernel
theorem dX5_addIdealCard_102 : decode cX5_addIdealCard 102 = .ok (.ifCond .eq 25, 3) := by decide +kernel
theorem dX5_addIdealCard_105 : decode cX5_addIdealCard 105 = .ok (.iload 7, 2) := by decide +kernel
theorem dX5_addIdealCard_107 : decode cX5_addIdealCard 107 = .ok (.iconst 2, 1) := by decide +kernel
theorem dX5_addIdealCard_108 : decode cX5_addIdealCard 108 = .ok (.bipush 20, 2) := by decide +kernel
theorem dX5_addIdealCard_110 : decode cX5_addIdealCard 110 = .ok (.invokestatic 13, 3) := by decide +kernel
theorem dX5_addIdealCard_113 : decode cX5_addIdealCard 113 = .ok (.ifCond .eq 14, 3) := by decide +kernel
theorem dX5_addIdealCard_116 : decode cX5_addIdealCard 116 = .ok (.iload 8, 2) := by decide +kernel
theorem dX5_addIdealCard_118 : decode cX5_addIdealCard 118 = .ok (.iconst 0, 1) := by decide +kernel
theorem dX5_addIdealCard_119 : decode cX5_addIdealCard 119 = .ok (.bipush 19, 2) := by decide +kernel
theorem dX5_addIdealCard_121 : decode cX5_addIdealCard 121 = .ok (.invokestatic 13, 3) := by decide +kernel
theorem dX5_addIdealCard_124 : decode cX5_addIdealCard 124 = .ok (.ifCond .ne 6, 3) := by decide +kernel
theorem dX5_addIdealCard_127 : decode cX5_addIdealCard 127 = .ok (.ldc 25, 2) := by decide +kernel
theorem dX5_addIdealCard_129 : decode cX5_addIdealCard 129 = .ok (.ireturn, 1) := by decide +kernel
theorem dX5_addIdealCard_130 : decode cX5_addIdealCard 130 = .ok (.aload_n 0, 1) := by decide +kernel
theorem dX5_addIdealCard_131 : decode cX5_addIdealCard 131 = .ok (.getfield 7, 3) := by decide +kernel
theorem dX5_addIdealCard_134 : decode cX5_addIdealCard 134 = .ok (.bipush 61, 2) := by decide +kernel
theorem dX5_addIdealCard_136 : decode cX5_addIdealCard 136 = .ok (.iaload, 1) := by decide +kernel
theorem dX5_addIdealCard_137 : decode cX5_addIdealCard 137 = .ok (.bipush 10, 2) := by decide +kernel
theorem dX5_addIdealCard_139 : decode cX5_addIdealCard 139 = .ok (.if_icmp .ne 6, 3) := by decide +kernel
theorem dX5_addIdealCard_142 : decode cX5_addIdealCard 142 = .ok (.ldc 52, 2) := by decide +kernel
theorem dX5_addIdealCard_144 : decode cX5_addIdealCard 144 = .ok (.ireturn, 1) := by decide +kernel
theorem dX5_addIdealCard_145 : decode cX5_addIdealCard 145 = .ok (.aload_n 0, 1) := by decide +kernel
theorem dX5_addIdealCard_146 : decode cX5_addIdealCard 146 = .ok (.invokevirtual 27, 3) := by decide +kernel
theorem dX5_addIdealCard_149 : decode cX5_addIdealCard 149 = .ok (.aload_n 0, 1) := by decide +kernel
theorem dX5_addIdealCard_150 : decode cX5_addIdealCard 150 = .ok (.iload 5, 2) := by decide +kernel
theorem dX5_addIdealCard_152 : decode cX5_addIdealCard 152 = .ok (.iload 6, 2) := by decide +kernel
theorem dX5_addIdealCard_154 : decode cX5_addIdealCard 154 = .ok (.iload 7, 2) := by decide +kernel
theorem dX5_addIdealCard_156 : decode cX5_addIdealCard 156 = .ok (.iload 8, 2) := by decide +kernel
theorem dX5_addIdealCard_158 : decode cX5_addIdealCard 158 = .ok (.iload 4, 2) := by decide +kernel
theorem dX5_addIdealCard_160 : decode cX5_addIdealCard 160 = .ok (.invokevirtual 68, 3) := by decide +kernel
theorem dX5_addIdealCard_163 : decode cX5_addIdealCard 163 = .ok (.aload_n 0, 1) := by decide +kernel
theorem dX5_addIdealCard_164 : decode cX5_addIdealCard 164 = .ok (.iload_n 1, 1) := by decide +kernel
theorem dX5_addIdealCard_165 : decode cX5_addIdealCard 165 = .ok (.iload_n 2, 1) := by decide +kernel
theorem dX5_addIdealCard_166 : decode cX5_addIdealCard 166 = .ok (.invokevirtual 57, 3) := by decide +kernel
theorem dX5_addIdealCard_169 : decode cX5_addIdealCard 169 = .ok (.ireturn, 1) := by decide +kernel
theorem dX5_remove_0 : decode cX5_remove 0 = .ok (.iload_n 1, 1) := by decide +kernel
theorem dX5_remove_1 : decode cX5_remove 1 = .ok (.invokestatic 46, 3) := by decide +kernel
theorem dX5_remove_4 : decode cX5_remove 4 = .ok (.istore_n 2, 1) := by decide +kernel
theorem dX5_remove_5 : decode cX5_remove 5 = .ok (.iload_n 2, 1) := by decide +kernel
theorem dX5_remove_6 : decode cX5_remove 6 = .ok (.aload_n 0, 1) := by decide +kernel
theorem dX5_remove_7 : decode cX5_remove 7 = .ok (.getfield 7, 3) := by decide +kernel
theorem dX5_remove_10 : decode cX5_remove 10 = .ok (.bipush 61, 2) := by decide +kernel
theorem dX5_remove_12 : decode cX5_remove 12 = .ok (.iaload, 1) := by decide +kernel
theorem dX5_remove_13 : decode cX5_remove 13 = .ok (.iconst 1, 1) := by decide +kernel
theorem dX5_remove_14 : decode cX5_remove 14 = .ok (.isub, 1) := by decide +kernel
theorem dX5_remove_15 : decode cX5_remove 15 = .ok (.invokestatic 46, 3) := by decide +kernel
theorem dX5_remove_18 : decode cX5_remove 18 = .ok (.if_icmp .ge 24, 3) := by decide +kernel
theorem dX5_remove_21 : decode cX5_remove 21 = .ok (.aload_n 0, 1) := by decide +kernel
theorem dX5_remove_22 : decode cX5_remove 22 = .ok (.getfield 7, 3) := by decide +kernel
theorem dX5_remove_25 : decode cX5_remove 25 = .ok (.iload_n 2, 1) := by decide +kernel
theorem dX5_remove_26 : decode cX5_remove 26 = .ok (.aload_n 0, 1) := by decide +kernel
theorem dX5_remove_27 : decode cX5_remove 27 = .ok (.getfield 7, 3) := by decide +kernel
theorem dX5_remove_30 : decode cX5_remove 30 = .ok (.iload_n 2, 1) := by decide +kernel
theorem dX5_remove_31 : decode cX5_remove 31 = .ok (.bipush 44, 2) := by decide +kernel
theorem dX5_remove_33 : decode cX5_remove 33 = .ok (.iadd, 1) := by decide +kernel
theorem dX5_remove_34 : decode cX5_remove 34 = .ok (.iaload, 1) := by decide +kernel
theorem dX5_remove_35 : decode cX5_remove 35 = .ok (.iastore, 1) := by decide +kernel
theorem dX5_remove_36 : decode cX5_remove 36 = .ok (.iinc 2 1, 3) := by decide +kernel
theorem dX5_remove_39 : decode cX5_remove 39 = .ok (.goto (-34), 3) := by decide +kernel
theorem dX5_remove_42 : decode cX5_remove 42 = .ok (.aload_n 0, 1) := by decide +kernel
theorem dX5_remove_43 : decode cX5_remove 43 = .ok (.getfield 7, 3) := by decide +kernel
theorem dX5_remove_46 : decode cX5_remove 46 = .ok (.bipush 61, 2) := by decide +kernel
theorem dX5_remove_48 : decode cX5_remove 48 = .ok (.dup2, 1) := by decide +kernel
theorem dX5_remove_49 : decode cX5_remove 49 = .ok (.iaload, 1) := by decide +kernel
theorem dX5_remove_50 : decode cX5_remove 50 = .ok (.iconst 1, 1) := by decide +kernel
theorem dX5_remove_51 : decode cX5_remove 51 = .ok (.isub, 1) := by decide +kernel
theorem dX5_remove_52 : decode cX5_remove 52 = .ok (.iastore, 1) := by decide +kernel
theorem dX5_remove_53 : decode cX5_remove 53 = .ok (.return_, 1) := by decide +kernel
theorem dX5_removeCard_0 : decode cX5_removeCard 0 = .ok (.aload_n 0, 1) := by decide +kernel
theorem dX5_removeCard_1 : decode cX5_removeCard 1 = .ok (.iload_n 1, 1) := by decide +kernel
theorem dX5_removeCard_2 : decode cX5_removeCard 2 = .ok (.invokevirtual 72, 3) := by decide +kernel
theorem dX5_removeCard_5 : decode cX5_removeCard 5 = .ok (.ifCond .ne 6, 3) := by decide +kernel
theorem dX5_removeCard_8 : decode cX5_removeCard 8 = .ok (.ldc 26, 2) := by decide +kernel
theorem dX5_removeCard_10 : decode cX5_removeCard 10 = .ok (.ireturn, 1) := by decide +kernel
theorem dX5_removeCard_11 : decode cX5_removeCard 11 = .ok (.aload_n 0, 1) := by decide +kernel
theorem dX5_removeCard_12 : decode cX5_removeCard 12 = .ok (.invokevirtual 27, 3) := by decide +kernel
theorem dX5_removeCard_15 : decode cX5_removeCard 15 = .ok (.aload_n 0, 1) := by decide +kernel
theorem dX5_removeCard_16 : decode cX5_removeCard 16 = .ok (.iload_n 1, 1) := by decide +kernel
theorem dX5_removeCard_17 : decode cX5_removeCard 17 = .ok (.invokevirtual 75, 3) := by decide +kernel
theorem dX5_removeCard_20 : decode cX5_removeCard 20 = .ok (.aload_n 0, 1) := by decide +kernel
theorem dX5_removeCard_21 : decode cX5_removeCard 21 = .ok (.getfield 7, 3) := by decide +kernel
theorem dX5_removeCard_24 : decode cX5_removeCard 24 = .ok (.bipush 61, 2) := by decide +kernel
theorem dX5_removeCard_26 : decode cX5_removeCard 26 = .ok (.iaload, 1) := by decide +kernel
theorem dX5_removeCard_27 : decode cX5_removeCard 27 = .ok (.ireturn, 1) := by decide +kernel
theorem dX5_cardCount_0 : decode cX5_cardCount 0 = .ok (.aload_n 0, 1) := by decide +kernel
theorem dX5_cardCount_1 : decode cX5_cardCount 1 = .ok (.getfield 7, 3) := by decide +kernel
theorem dX5_cardCount_4 : decode cX5_cardCount 4 = .ok (.bipush 61, 2) := by decide +kernel
theorem dX5_cardCount_6 : decode cX5_cardCount 6 = .ok (.iaload, 1) := by decide +kernel
theorem dX5_cardCount_7 : decode cX5_cardCount 7 = .ok (.ireturn, 1) := by decide +kernel
theorem dX5_end_0 : decode cX5_end 0 = .ok (.aload_n 0, 1) := by decide +kernel
theorem dX5_end_1 : decode cX5_end 1 = .ok (.iload_n 1, 1) := by decide +kernel
theorem dX5_end_2 : decode cX5_end 2 = .ok (.invokevirtual 72, 3) := by decide +kernel
theorem dX5_end_5 : decode cX5_end 5 = .ok (.ifCond .eq 15, 3) := by decide +kernel
theorem dX5_end_8 : decode cX5_end 8 = .ok (.aload_n 0, 1) := by decide +kernel
theorem dX5_end_9 : decode cX5_end 9 = .ok (.getfield 7, 3) := by decide +kernel
theorem dX5_end_12 : decode cX5_end 12 = .ok (.iload_n 1, 1) := by decide +kernel
theorem dX5_end_13 : decode cX5_end 13 = .ok (.invokestatic 46, 3) := by decide +kernel
theorem dX5_end_16 : decode cX5_end 16 = .ok (.iaload, 1) := by decide +kernel
theorem dX5_end_17 : decode cX5_end 17 = .ok (.goto 5, 3) := by decide +kernel
theorem dX5_end_20 : decode cX5_end 20 = .ok (.ldc 26, 2) := by decide +kernel
theorem dX5_end_22 : decode cX5_end 22 = .ok (.ireturn, 1) := by decide +kernel
theorem dX5_speed_0 : decode cX5_speed 0 = .ok (.aload_n 0, 1) := by decide +kernel
theorem dX5_speed_1 : decode cX5_speed 1 = .ok (.iload_n 1, 1) := by decide +kernel
theorem dX5_speed_2 : decode cX5_speed 2 = .ok (.invokevirtual 72, 3) := by decide +kernel
theorem dX5_speed_5 : decode cX5_speed 5 = .ok (.ifCond .eq 17, 3) := by decide +kernel
theorem dX5_speed_8 : decode cX5_speed 8 = .ok (.aload_n 0, 1) := by decide +kernel
theorem dX5_speed_9 : decode cX5_speed 9 = .ok (.getfield 7, 3) := by decide +kernel
theorem dX5_speed_12 : decode cX5_speed 12 = .ok (.iload_n 1, 1) := by decide +kernel
theorem dX5_speed_13 : decode cX5_speed 13 = .ok (.invokestatic 46, 3) := by decide +kernel
theorem dX5_speed_16 : decode cX5_speed 16 = .ok (.iconst 1, 1) := by decide +kernel
theorem dX5_speed_17 : decode cX5_speed 17 = .ok (.iadd, 1) := by decide +kernel
theorem dX5_speed_18 : decode cX5_speed 18 = .ok (.iaload, 1) := by decide +kernel
theorem dX5_speed_19 : decode cX5_speed 19 = .ok (.goto 5, 3) := by decide +kernel
theorem dX5_speed_22 : decode cX5_speed 22 = .ok (.ldc 26, 2) := by decide +kernel
theorem dX5_speed_24 : decode cX5_speed 24 = .ok (.ireturn, 1) := by decide +kernel
theorem dX5_pressure_0 : decode cX5_pressure 0 = .ok (.aload_n 0, 1) := by decide +kernel
theorem dX5_pressure_1 : decode cX5_pressure 1 = .ok (.iload_n 1, 1) := by decide +kernel
theorem dX5_pressure_2 : decode cX5_pressure 2 = .ok (.invokevirtual 72, 3) := by decide +kernel
theorem dX5_pressure_5 : decode cX5_pressure 5 = .ok (.ifCond .eq 41, 3) := by decide +kernel
theorem dX5_pressure_8 : decode cX5_pressure 8 = .ok (.iload_n 2, 1) := by decide +kernel
theorem dX5_pressure_9 : decode cX5_pressure 9 = .ok (.iconst 0, 1) := by decide +kernel
theorem dX5_pressure_10 : decode cX5_pressure 10 = .ok (.iconst 1, 1) := by decide +kernel
theorem dX5_pressure_11 : decode cX5_pressure 11 = .ok (.invokestatic 13, 3) := by decide +kernel
theorem dX5_pressure_14 : decode cX5_pressure 14 = .ok (.ifCond .eq 32, 3) := by decide +kernel
theorem dX5_pressure_17 : decode cX5_pressure 17 = .ok (.iload_n 3, 1) := by decide +kernel
theorem dX5_pressure_18 : decode cX5_pressure 18 = .ok (.iconst 0, 1) := by decide +kernel
theorem dX5_pressure_19 : decode cX5_pressure 19 = .ok (.bipush 20, 2) := by decide +kernel
theorem dX5_pressure_21 : decode cX5_pressure 21 = .ok (.invokestatic 13, 3) := by decide +kernel
theorem dX5_pressure_24 : decode cX5_pressure 24 = .ok (.ifCond .eq 22, 3) := by decide +kernel
theorem dX5_pressure_27 : decode cX5_pressure 27 = .ok (.aload_n 0, 1) := by decide +kernel
theorem dX5_pressure_28 : decode cX5_pressure 28 = .ok (.getfield 7, 3) := by decide +kernel
theorem dX5_pressure_31 : decode cX5_pressure 31 = .ok (.iload_n 1, 1) := by decide +kernel
theorem dX5_pressure_32 : decode cX5_pressure 32 = .ok (.invokestatic 49, 3) := by decide +kernel
theorem dX5_pressure_35 : decode cX5_pressure 35 = .ok (.bipush 21, 2) := by decide +kernel
theorem dX5_pressure_37 : decode cX5_pressure 37 = .ok (.iload_n 2, 1) := by decide +kernel
theorem dX5_pressure_38 : decode cX5_pressure 38 = .ok (.imul, 1) := by decide +kernel
theorem dX5_pressure_39 : decode cX5_pressure 39 = .ok (.iadd, 1) := by decide +kernel
theorem dX5_pressure_40 : decode cX5_pressure 40 = .ok (.iload_n 3, 1) := by decide +kernel
theorem dX5_pressure_41 : decode cX5_pressure 41 = .ok (.iadd, 1) := by decide +kernel
theorem dX5_pressure_42 : decode cX5_pressure 42 = .ok (.iaload, 1) := by decide +kernel
theorem dX5_pressure_43 : decode cX5_pressure 43 = .ok (.goto 5, 3) := by decide +kernel
theorem dX5_pressure_46 : decode cX5_pressure 46 = .ok (.ldc 26, 2) := by decide +kernel
theorem dX5_pressure_48 : decode cX5_pressure 48 = .ok (.ireturn, 1) := by decide +kernel
theorem dX5_difference_0 : decode cX5_difference 0 = .ok (.aload_n 0, 1) := by decide +kernel
theorem dX5_difference_1 : decode cX5_difference 1 = .ok (.getfield 7, 3) := by decide +kernel
theorem dX5_difference_4 : decode cX5_difference 4 = .ok (.iload_n 1, 1) := by decide +kernel
theorem dX5_difference_5 : decode cX5_difference 5 = .ok (.iload_n 2, 1) := by decide +kernel
theorem dX5_difference_6 : decode cX5_difference 6 = .ok (.iadd, 1) := by decide +kernel
theorem dX5_difference_7 : decode cX5_difference 7 = .ok (.iaload, 1) := by decide +kernel
theorem dX5_difference_8 : decode cX5_difference 8 = .ok (.aload_n 0, 1) := by decide +kernel
theorem dX5_difference_9 : decode cX5_difference 9 = .ok (.getfield 7, 3) := by decide +kernel
theorem dX5_difference_12 : decode cX5_difference 12 = .ok (.iload_n 1, 1) := by decide +kernel
theorem dX5_difference_13 : decode cX5_difference 13 = .ok (.bipush 21, 2) := by decide +kernel
theorem dX5_difference_15 : decode cX5_difference 15 = .ok (.iadd, 1) := by decide +kernel
theorem dX5_difference_16 : decode cX5_difference 16 = .ok (.iload_n 2, 1) := by decide +kernel
theorem dX5_difference_17 : decode cX5_difference 17 = .ok (.iadd, 1) := by decide +kernel
theorem dX5_difference_18 : decode cX5_difference 18 = .ok (.iaload, 1) := by decide +kernel
theorem dX5_difference_19 : decode cX5_difference 19 = .ok (.isub, 1) := by decide +kernel
theorem dX5_difference_20 : decode cX5_difference 20 = .ok (.ireturn, 1) := by decide +kernel
theorem dX5_areaAt_0 : decode cX5_areaAt 0 = .ok (.iconst 0, 1) := by decide +kernel
theorem dX5_areaAt_1 : decode cX5_areaAt 1 = .ok (.istore_n 2, 1) := by decide +kernel
theorem dX5_areaAt_2 : decode cX5_areaAt 2 = .ok (.iconst 0, 1) := by decide +kernel
theorem dX5_areaAt_3 : decode cX5_areaAt 3 = .ok (.istore_n 3, 1) := by decide +kernel
theorem dX5_areaAt_4 : decode cX5_areaAt 4 = .ok (.iload_n 3, 1) := by decide +kernel
theorem dX5_areaAt_5 : decode cX5_areaAt 5 = .ok (.bipush 20, 2) := by decide +kernel
theorem dX5_areaAt_7 : decode cX5_areaAt 7 = .ok (.if_icmp .ge 27, 3) := by decide +kernel
theorem dX5_areaAt_10 : decode cX5_areaAt 10 = .ok (.iload_n 2, 1) := by decide +kernel
theorem dX5_areaAt_11 : decode cX5_areaAt 11 = .ok (.aload_n 0, 1) := by decide +kernel
theorem dX5_areaAt_12 : decode cX5_areaAt 12 = .ok (.iload_n 1, 1) := by decide +kernel
theorem dX5_areaAt_13 : decode cX5_areaAt 13 = .ok (.iload_n 3, 1) := by decide +kernel
theorem dX5_areaAt_14 : decode cX5_areaAt 14 = .ok (.invokevirtual 79, 3) := by decide +kernel
theorem dX5_areaAt_17 : decode cX5_areaAt 17 = .ok (.aload_n 0, 1) := by decide +kernel
theorem dX5_areaAt_18 : decode cX5_areaAt 18 = .ok (.iload_n 1, 1) := by decide +kernel
theorem dX5_areaAt_19 : decode cX5_areaAt 19 = .ok (.iload_n 3, 1) := by decide +kernel
theorem dX5_areaAt_20 : decode cX5_areaAt 20 = .ok (.iconst 1, 1) := by decide +kernel
theorem dX5_areaAt_21 : decode cX5_areaAt 21 = .ok (.iadd, 1) := by decide +kernel
theorem dX5_areaAt_22 : decode cX5_areaAt 22 = .ok (.invokevirtual 79, 3) := by decide +kernel
theorem dX5_areaAt_25 : decode cX5_areaAt 25 = .ok (.iadd, 1) := by decide +kernel
theorem dX5_areaAt_26 : decode cX5_areaAt 26 = .ok (.iadd, 1) := by decide +kernel
theorem dX5_areaAt_27 : decode cX5_areaAt 27 = .ok (.istore_n 2, 1) := by decide +kernel
theorem dX5_areaAt_28 : decode cX5_areaAt 28 = .ok (.iinc 3 1, 3) := by decide +kernel
theorem dX5_areaAt_31 : decode cX5_areaAt 31 = .ok (.goto (-27), 3) := by decide +kernel
theorem dX5_areaAt_34 : decode cX5_areaAt 34 = .ok (.iload_n 2, 1) := by decide +kernel
theorem dX5_areaAt_35 : decode cX5_areaAt 35 = .ok (.ireturn, 1) := by decide +kernel
theorem dX5_part_0 : decode cX5_part 0 = .ok (.iload_n 0, 1) := by decide +kernel
theorem dX5_part_1 : decode cX5_part 1 = .ok (.ifCond .lt 19, 3) := by decide +kernel
theorem dX5_part_4 : decode cX5_part 4 = .ok (.iload_n 1, 1) := by decide +kernel
theorem dX5_part_5 : decode cX5_part 5 = .ok (.ifCond .lt 15, 3) := by decide +kernel
theorem dX5_part_8 : decode cX5_part 8 = .ok (.iload_n 2, 1) := by decide +kernel
theorem dX5_part_9 : decode cX5_part 9 = .ok (.ifCond .eq 9, 3) := by decide +kernel
theorem dX5_part_12 : decode cX5_part 12 = .ok (.iload_n 0, 1) := by decide +kernel
theorem dX5_part_13 : decode cX5_part 13 = .ok (.iload_n 1, 1) := by decide +kernel
theorem dX5_part_14 : decode cX5_part 14 = .ok (.iadd, 1) := by decide +kernel
theorem dX5_part_15 : decode cX5_part 15 = .ok (.goto 4, 3) := by decide +kernel
theorem dX5_part_18 : decode cX5_part 18 = .ok (.iconst 0, 1) := by decide +kernel
theorem dX5_part_19 : decode cX5_part 19 = .ok (.ireturn, 1) := by decide +kernel
theorem dX5_part_20 : decode cX5_part 20 = .ok (.iload_n 0, 1) := by decide +kernel
theorem dX5_part_21 : decode cX5_part 21 = .ok (.ifCond .gt 20, 3) := by decide +kernel
theorem dX5_part_24 : decode cX5_part 24 = .ok (.iload_n 1, 1) := by decide +kernel
theorem dX5_part_25 : decode cX5_part 25 = .ok (.ifCond .gt 16, 3) := by decide +kernel
theorem dX5_part_28 : decode cX5_part 28 = .ok (.iload_n 2, 1) := by decide +kernel
theorem dX5_part_29 : decode cX5_part 29 = .ok (.ifCond .eq 7, 3) := by decide +kernel
theorem dX5_part_32 : decode cX5_part 32 = .ok (.iconst 0, 1) := by decide +kernel
theorem dX5_part_33 : decode cX5_part 33 = .ok (.goto 7, 3) := by decide +kernel
theorem dX5_part_36 : decode cX5_part 36 = .ok (.iload_n 0, 1) := by decide +kernel
theorem dX5_part_37 : decode cX5_part 37 = .ok (.ineg, 1) := by decide +kernel
theorem dX5_part_38 : decode cX5_part 38 = .ok (.iload_n 1, 1) := by decide +kernel
theorem dX5_part_39 : decode cX5_part 39 = .ok (.isub, 1) := by decide +kernel
theorem dX5_part_40 : decode cX5_part 40 = .ok (.ireturn, 1) := by decide +kernel
theorem dX5_part_41 : decode cX5_part 41 = .ok (.iload_n 0, 1) := by decide +kernel
theorem dX5_part_42 : decode cX5_part 42 = .ok (.ifCond .le 7, 3) := by decide +kernel
theorem dX5_part_45 : decode cX5_part 45 = .ok (.iload_n 0, 1) := by decide +kernel
theorem dX5_part_46 : decode cX5_part 46 = .ok (.goto 4, 3) := by decide +kernel
theorem dX5_part_49 : decode cX5_part 49 = .ok (.iload_n 1, 1) := by decide +kernel
theorem dX5_part_50 : decode cX5_part 50 = .ok (.istore_n 3, 1) := by decide +kernel
theorem dX5_part_51 : decode cX5_part 51 = .ok (.iload_n 0, 1) := by decide +kernel
theorem dX5_part_52 : decode cX5_part 52 = .ok (.ifCond .le 8, 3) := by decide +kernel
theorem dX5_part_55 : decode cX5_part 55 = .ok (.iload_n 1, 1) := by decide +kernel
theorem dX5_part_56 : decode cX5_part 56 = .ok (.ineg, 1) := by decide +kernel
theorem dX5_part_57 : decode cX5_part 57 = .ok (.goto 5, 3) := by decide +kernel
theorem dX5_part_60 : decode cX5_part 60 = .ok (.iload_n 0, 1) := by decide +kernel
theorem dX5_part_61 : decode cX5_part 61 = .ok (.ineg, 1) := by decide +kernel
theorem dX5_part_62 : decode cX5_part 62 = .ok (.istore 4, 2) := by decide +kernel
theorem dX5_part_64 : decode cX5_part 64 = .ok (.iload_n 2, 1) := by decide +kernel
theorem dX5_part_65 : decode cX5_part 65 = .ok (.ifCond .eq 14, 3) := by decide +kernel
theorem dX5_part_68 : decode cX5_part 68 = .ok (.iload_n 3, 1) := by decide +kernel
theorem dX5_part_69 : decode cX5_part 69 = .ok (.iload_n 3, 1) := by decide +kernel
theorem dX5_part_70 : decode cX5_part 70 = .ok (.imul, 1) := by decide +kernel
theorem dX5_part_71 : decode cX5_part 71 = .ok (.iload_n 3, 1) := by decide +kernel
theorem dX5_part_72 : decode cX5_part 72 = .ok (.iload 4, 2) := by decide +kernel
theorem dX5_part_74 : decode cX5_part 74 = .ok (.iadd, 1) := by decide +kernel
theorem dX5_part_75 : decode cX5_part 75 = .ok (.idiv, 1) := by decide +kernel
theorem dX5_part_76 : decode cX5_part 76 = .ok (.goto 13, 3) := by decide +kernel
theorem dX5_part_79 : decode cX5_part 79 = .ok (.iload 4, 2) := by decide +kernel
theorem dX5_part_81 : decode cX5_part 81 = .ok (.iload 4, 2) := by decide +kernel
theorem dX5_part_83 : decode cX5_part 83 = .ok (.imul, 1) := by decide +kernel
theorem dX5_part_84 : decode cX5_part 84 = .ok (.iload_n 3, 1) := by decide +kernel
theorem dX5_part_85 : decode cX5_part 85 = .ok (.iload 4, 2) := by decide +kernel
theorem dX5_part_87 : decode cX5_part 87 = .ok (.iadd, 1) := by decide +kernel
theorem dX5_part_88 : decode cX5_part 88 = .ok (.idiv, 1) := by decide +kernel
theorem dX5_part_89 : decode cX5_part 89 = .ok (.ireturn, 1) := by decide +kernel
theorem dX5_parts_0 : decode cX5_parts 0 = .ok (.iconst 0, 1) := by decide +kernel
theorem dX5_parts_1 : decode cX5_parts 1 = .ok (.istore_n 3, 1) := by decide +kernel
theorem dX5_parts_2 : decode cX5_parts 2 = .ok (.iconst 0, 1) := by decide +kernel
theorem dX5_parts_3 : decode cX5_parts 3 = .ok (.istore 4, 2) := by decide +kernel
theorem dX5_parts_5 : decode cX5_parts 5 = .ok (.iload 4, 2) := by decide +kernel
theorem dX5_parts_7 : decode cX5_parts 7 = .ok (.bipush 20, 2) := by decide +kernel
theorem dX5_parts_9 : decode cX5_parts 9 = .ok (.if_icmp .ge 32, 3) := by decide +kernel
theorem dX5_parts_12 : decode cX5_parts 12 = .ok (.iload_n 3, 1) := by decide +kernel
theorem dX5_parts_13 : decode cX5_parts 13 = .ok (.aload_n 0, 1) := by decide +kernel
theorem dX5_parts_14 : decode cX5_parts 14 = .ok (.iload_n 1, 1) := by decide +kernel
theorem dX5_parts_15 : decode cX5_parts 15 = .ok (.iload 4, 2) := by decide +kernel
theorem dX5_parts_17 : decode cX5_parts 17 = .ok (.invokevirtual 79, 3) := by decide +kernel
theorem dX5_parts_20 : decode cX5_parts 20 = .ok (.aload_n 0, 1) := by decide +kernel
theorem dX5_parts_21 : decode cX5_parts 21 = .ok (.iload_n 1, 1) := by decide +kernel
theorem dX5_parts_22 : decode cX5_parts 22 = .ok (.iload 4, 2) := by decide +kernel
theorem dX5_parts_24 : decode cX5_parts 24 = .ok (.iconst 1, 1) := by decide +kernel
theorem dX5_parts_25 : decode cX5_parts 25 = .ok (.iadd, 1) := by decide +kernel
theorem dX5_parts_26 : decode cX5_parts 26 = .ok (.invokevirtual 79, 3) := by decide +kernel
theorem dX5_parts_29 : decode cX5_parts 29 = .ok (.iload_n 2, 1) := by decide +kernel
theorem dX5_parts_30 : decode cX5_parts 30 = .ok (.invokestatic 82, 3) := by decide +kernel
theorem dX5_parts_33 : decode cX5_parts 33 = .ok (.iadd, 1) := by decide +kernel
theorem dX5_parts_34 : decode cX5_parts 34 = .ok (.istore_n 3, 1) := by decide +kernel
theorem dX5_parts_35 : decode cX5_parts 35 = .ok (.iinc 4 1, 3) := by decide +kernel
theorem dX5_parts_38 : decode cX5_parts 38 = .ok (.goto (-33), 3) := by decide +kernel
theorem dX5_parts_41 : decode cX5_parts 41 = .ok (.iload_n 3, 1) := by decide +kernel
theorem dX5_parts_42 : decode cX5_parts 42 = .ok (.ireturn, 1) := by decide +kernel
theorem dX5_powerOf_0 : decode cX5_powerOf 0 = .ok (.iload_n 1, 1) := by decide +kernel
theorem dX5_powerOf_1 : decode cX5_powerOf 1 = .ok (.i2l, 1) := by decide +kernel
theorem dX5_powerOf_2 : decode cX5_powerOf 2 = .ok (.aload_n 0, 1) := by decide +kernel
theorem dX5_powerOf_3 : decode cX5_powerOf 3 = .ok (.getfield 7, 3) := by decide +kernel
theorem dX5_powerOf_6 : decode cX5_powerOf 6 = .ok (.iconst 1, 1) := by decide +kernel
theorem dX5_powerOf_7 : decode cX5_powerOf 7 = .ok (.iload_n 2, 1) := by decide +kernel
theorem dX5_powerOf_8 : decode cX5_powerOf 8 = .ok (.iadd, 1) := by decide +kernel
theorem dX5_powerOf_9 : decode cX5_powerOf 9 = .ok (.iaload, 1) := by decide +kernel
theorem dX5_powerOf_10 : decode cX5_powerOf 10 = .ok (.i2l, 1) := by decide +kernel
theorem dX5_powerOf_11 : decode cX5_powerOf 11 = .ok (.lmul, 1) := by decide +kernel
theorem dX5_powerOf_12 : decode cX5_powerOf 12 = .ok (.aload_n 0, 1) := by decide +kernel
theorem dX5_powerOf_13 : decode cX5_powerOf 13 = .ok (.getfield 7, 3) := by decide +kernel
theorem dX5_powerOf_16 : decode cX5_powerOf 16 = .ok (.iconst 3, 1) := by decide +kernel
theorem dX5_powerOf_17 : decode cX5_powerOf 17 = .ok (.iaload, 1) := by decide +kernel
theorem dX5_powerOf_18 : decode cX5_powerOf 18 = .ok (.i2l, 1) := by decide +kernel
theorem dX5_powerOf_19 : decode cX5_powerOf 19 = .ok (.lmul, 1) := by decide +kernel
theorem dX5_powerOf_20 : decode cX5_powerOf 20 = .ok (.iload_n 3, 1) := by decide +kernel
theorem dX5_powerOf_21 : decode cX5_powerOf 21 = .ok (.i2l, 1) := by decide +kernel
theorem dX5_powerOf_22 : decode cX5_powerOf 22 = .ok (.lmul, 1) := by decide +kernel
theorem dX5_powerOf_23 : decode cX5_powerOf 23 = .ok (.ldc2_w 86, 3) := by decide +kernel
theorem dX5_powerOf_26 : decode cX5_powerOf 26 = .ok (.invokestatic 42, 3) := by decide +kernel
theorem dX5_powerOf_29 : decode cX5_powerOf 29 = .ok (.lreturn, 1) := by decide +kernel
theorem dX5_area_0 : decode cX5_area 0 = .ok (.aload_n 0, 1) := by decide +kernel
theorem dX5_area_1 : decode cX5_area 1 = .ok (.iload_n 1, 1) := by decide +kernel
theorem dX5_area_2 : decode cX5_area 2 = .ok (.invokevirtual 72, 3) := by decide +kernel
theorem dX5_area_5 : decode cX5_area 5 = .ok (.ifCond .eq 14, 3) := by decide +kernel
theorem dX5_area_8 : decode cX5_area 8 = .ok (.aload_n 0, 1) := by decide +kernel
theorem dX5_area_9 : decode cX5_area 9 = .ok (.iload_n 1, 1) := by decide +kernel
theorem dX5_area_10 : decode cX5_area 10 = .ok (.invokestatic 49, 3) := by decide +kernel
theorem dX5_area_13 : decode cX5_area 13 = .ok (.invokevirtual 88, 3) := by decide +kernel
theorem dX5_area_16 : decode cX5_area 16 = .ok (.goto 5, 3) := by decide +kernel
theorem dX5_area_19 : decode cX5_area 19 = .ok (.ldc 26, 2) := by decide +kernel
theorem dX5_area_21 : decode cX5_area 21 = .ok (.ireturn, 1) := by decide +kernel
theorem dX5_forwardArea_0 : decode cX5_forwardArea 0 = .ok (.aload_n 0, 1) := by decide +kernel
theorem dX5_forwardArea_1 : decode cX5_forwardArea 1 = .ok (.iload_n 1, 1) := by decide +kernel
theorem dX5_forwardArea_2 : decode cX5_forwardArea 2 = .ok (.invokevirtual 72, 3) := by decide +kernel
theorem dX5_forwardArea_5 : decode cX5_forwardArea 5 = .ok (.ifCond .eq 15, 3) := by decide +kernel
theorem dX5_forwardArea_8 : decode cX5_forwardArea 8 = .ok (.aload_n 0, 1) := by decide +kernel
theorem dX5_forwardArea_9 : decode cX5_forwardArea 9 = .ok (.iload_n 1, 1) := by decide +kernel
theorem dX5_forwardArea_10 : decode cX5_forwardArea 10 = .ok (.invokestatic 49, 3) := by decide +kernel
theorem dX5_forwardArea_13 : decode cX5_forwardArea 13 = .ok (.iconst 1, 1) := by decide +kernel
theorem dX5_forwardArea_14 : decode cX5_forwardArea 14 = .ok (.invokevirtual 91, 3) := by decide +kernel
theorem dX5_forwardArea_17 : decode cX5_forwardArea 17 = .ok (.goto 5, 3) := by decide +kernel
theorem dX5_forwardArea_20 : decode cX5_forwardArea 20 = .ok (.ldc 26, 2) := by decide +kernel
theorem dX5_forwardArea_22 : decode cX5_forwardArea 22 = .ok (.ireturn, 1) := by decide +kernel
theorem dX5_loopArea_0 : decode cX5_loopArea 0 = .ok (.aload_n 0, 1) := by decide +kernel
theorem dX5_loopArea_1 : decode cX5_loopArea 1 = .ok (.iload_n 1, 1) := by decide +kernel
theorem dX5_loopArea_2 : decode cX5_loopArea 2 = .ok (.invokevirtual 72, 3) := by decide +kernel
theorem dX5_loopArea_5 : decode cX5_loopArea 5 = .ok (.ifCond .eq 15, 3) := by decide +kernel
theorem dX5_loopArea_8 : decode cX5_loopArea 8 = .ok (.aload_n 0, 1) := by decide +kernel
theorem dX5_loopArea_9 : decode cX5_loopArea 9 = .ok (.iload_n 1, 1) := by decide +kernel
theorem dX5_loopArea_10 : decode cX5_loopArea 10 = .ok (.invokestatic 49, 3) := by decide +kernel
theorem dX5_loopArea_13 : decode cX5_loopArea 13 = .ok (.iconst 0, 1) := by decide +kernel
theorem dX5_loopArea_14 : decode cX5_loopArea 14 = .ok (.invokevirtual 91, 3) := by decide +kernel
theorem dX5_loopArea_17 : decode cX5_loopArea 17 = .ok (.goto 5, 3) := by decide +kernel
theorem dX5_loopArea_20 : decode cX5_loopArea 20 = .ok (.ldc 26, 2) := by decide +kernel
theorem dX5_loopArea_22 : decode cX5_loopArea 22 = .ok (.ireturn, 1) := by decide +kernel
theorem dX5_loopStations_0 : decode cX5_loopStations 0 = .ok (.aload_n 0, 1) := by decide +kernel
theorem dX5_loopStations_1 : decode cX5_loopStations 1 = .ok (.iload_n 1, 1) := by decide +kernel
theorem dX5_loopStations_2 : decode cX5_loopStations 2 = .ok (.invokevirtual 72, 3) := by decide +kernel
theorem dX5_loopStations_5 : decode cX5_loopStations 5 = .ok (.ifCond .ne 6, 3) := by decide +kernel
theorem dX5_loopStations_8 : decode cX5_loopStations 8 = .ok (.ldc 26, 2) := by decide +kernel
theorem dX5_loopStations_10 : decode cX5_loopStations 10 = .ok (.ireturn, 1) := by decide +kernel
theorem dX5_loopStations_11 : decode cX5_loopStations 11 = .ok (.iconst 0, 1) := by decide +kernel
theorem dX5_loopStations_12 : decode cX5_loopStations 12 = .ok (.istore_n 2, 1) := by decide +kernel
theorem dX5_loopStations_13 : decode cX5_loopStations 13 = .ok (.iconst 0, 1) := by decide +kernel
theorem dX5_loopStations_14 : decode cX5_loopStations 14 = .ok (.istore_n 3, 1) := by decide +kernel
theorem dX5_loopStations_15 : decode cX5_loopStations 15 = .ok (.iload_n 3, 1) := by decide +kernel
theorem dX5_loopStations_16 : decode cX5_loopStations 16 = .ok (.bipush 21, 2) := by decide +kernel
theorem dX5_loopStations_18 : decode cX5_loopStations 18 = .ok (.if_icmp .ge 31, 3) := by decide +kernel
theorem dX5_loopStations_21 : decode cX5_loopStations 21 = .ok (.iload_n 2, 1) := by decide +kernel
theorem dX5_loopStations_22 : decode cX5_loopStations 22 = .ok (.aload_n 0, 1) := by decide +kernel
theorem dX5_loopStations_23 : decode cX5_loopStations 23 = .ok (.iload_n 1, 1) := by decide +kernel
theorem dX5_loopStations_24 : decode cX5_loopStations 24 = .ok (.invokestatic 49, 3) := by decide +kernel
theorem dX5_loopStations_27 : decode cX5_loopStations 27 = .ok (.iload_n 3, 1) := by decide +kernel
theorem dX5_loopStations_28 : decode cX5_loopStations 28 = .ok (.invokevirtual 79, 3) := by decide +kernel
theorem dX5_loopStations_31 : decode cX5_loopStations 31 = .ok (.ifCond .ge 9, 3) := by decide +kernel
theorem dX5_loopStations_34 : decode cX5_loopStations 34 = .ok (.iconst 1, 1) := by decide +kernel
theorem dX5_loopStations_35 : decode cX5_loopStations 35 = .ok (.iload_n 3, 1) := by decide +kernel
theorem dX5_loopStations_36 : decode cX5_loopStations 36 = .ok (.ishl, 1) := by decide +kernel
theorem dX5_loopStations_37 : decode cX5_loopStations 37 = .ok (.goto 4, 3) := by decide +kernel
theorem dX5_loopStations_40 : decode cX5_loopStations 40 = .ok (.iconst 0, 1) := by decide +kernel
theorem dX5_loopStations_41 : decode cX5_loopStations 41 = .ok (.ior, 1) := by decide +kernel
theorem dX5_loopStations_42 : decode cX5_loopStations 42 = .ok (.istore_n 2, 1) := by decide +kernel
theorem dX5_loopStations_43 : decode cX5_loopStations 43 = .ok (.iinc 3 1, 3) := by decide +kernel
theorem dX5_loopStations_46 : decode cX5_loopStations 46 = .ok (.goto (-31), 3) := by decide +kernel
theorem dX5_loopStations_49 : decode cX5_loopStations 49 = .ok (.iload_n 2, 1) := by decide +kernel
theorem dX5_loopStations_50 : decode cX5_loopStations 50 = .ok (.ireturn, 1) := by decide +kernel
theorem dX5_meanPressure_0 : decode cX5_meanPressure 0 = .ok (.aload_n 0, 1) := by decide +kernel
theorem dX5_meanPressure_1 : decode cX5_meanPressure 1 = .ok (.iload_n 1, 1) := by decide +kernel
theorem dX5_meanPressure_2 : decode cX5_meanPressure 2 = .ok (.invokevirtual 72, 3) := by decide +kernel
theorem dX5_meanPressure_5 : decode cX5_meanPressure 5 = .ok (.ifCond .eq 26, 3) := by decide +kernel
theorem dX5_meanPressure_8 : decode cX5_meanPressure 8 = .ok (.aload_n 0, 1) := by decide +kernel
theorem dX5_meanPressure_9 : decode cX5_meanPressure 9 = .ok (.iload_n 1, 1) := by decide +kernel
theorem dX5_meanPressure_10 : decode cX5_meanPressure 10 = .ok (.invokestatic 49, 3) := by decide +kernel
theorem dX5_meanPressure_13 : decode cX5_meanPressure 13 = .ok (.invokevirtual 88, 3) := by decide +kernel
theorem dX5_meanPressure_16 : decode cX5_meanPressure 16 = .ok (.i2l, 1) := by decide +kernel
theorem dX5_meanPressure_17 : decode cX5_meanPressure 17 = .ok (.ldc2_w 63, 3) := by decide +kernel
theorem dX5_meanPressure_20 : decode cX5_meanPressure 20 = .ok (.lmul, 1) := by decide +kernel
theorem dX5_meanPressure_21 : decode cX5_meanPressure 21 = .ok (.ldc2_w 95, 3) := by decide +kernel
theorem dX5_meanPressure_24 : decode cX5_meanPressure 24 = .ok (.invokestatic 42, 3) := by decide +kernel
theorem dX5_meanPressure_27 : decode cX5_meanPressure 27 = .ok (.l2i, 1) := by decide +kernel
theorem dX5_meanPressure_28 : decode cX5_meanPressure 28 = .ok (.goto 5, 3) := by decide +kernel
theorem dX5_meanPressure_31 : decode cX5_meanPressure 31 = .ok (.ldc 26, 2) := by decide +kernel
theorem dX5_meanPressure_33 : decode cX5_meanPressure 33 = .ok (.ireturn, 1) := by decide +kernel
theorem dX5_powerAt_0 : decode cX5_powerAt 0 = .ok (.aload_n 0, 1) := by decide +kernel
theorem dX5_powerAt_1 : decode cX5_powerAt 1 = .ok (.aload_n 0, 1) := by decide +kernel
theorem dX5_powerAt_2 : decode cX5_powerAt 2 = .ok (.iload_n 1, 1) := by decide +kernel
theorem dX5_powerAt_3 : decode cX5_powerAt 3 = .ok (.invokestatic 49, 3) := by decide +kernel
theorem dX5_powerAt_6 : decode cX5_powerAt 6 = .ok (.invokevirtual 88, 3) := by decide +kernel
theorem dX5_powerAt_9 : decode cX5_powerAt 9 = .ok (.aload_n 0, 1) := by decide +kernel
theorem dX5_powerAt_10 : decode cX5_powerAt 10 = .ok (.getfield 7, 3) := by decide +kernel
theorem dX5_powerAt_13 : decode cX5_powerAt 13 = .ok (.iload_n 1, 1) := by decide +kernel
theorem dX5_powerAt_14 : decode cX5_powerAt 14 = .ok (.invokestatic 46, 3) := by decide +kernel
theorem dX5_powerAt_17 : decode cX5_powerAt 17 = .ok (.iaload, 1) := by decide +kernel
theorem dX5_powerAt_18 : decode cX5_powerAt 18 = .ok (.aload_n 0, 1) := by decide +kernel
theorem dX5_powerAt_19 : decode cX5_powerAt 19 = .ok (.getfield 7, 3) := by decide +kernel
theorem dX5_powerAt_22 : decode cX5_powerAt 22 = .ok (.iload_n 1, 1) := by decide +kernel
theorem dX5_powerAt_23 : decode cX5_powerAt 23 = .ok (.invokestatic 46, 3) := by decide +kernel
theorem dX5_powerAt_26 : decode cX5_powerAt 26 = .ok (.iconst 1, 1) := by decide +kernel
theorem dX5_powerAt_27 : decode cX5_powerAt 27 = .ok (.iadd, 1) := by decide +kernel
theorem dX5_powerAt_28 : decode cX5_powerAt 28 = .ok (.iaload, 1) := by decide +kernel
theorem dX5_powerAt_29 : decode cX5_powerAt 29 = .ok (.invokevirtual 97, 3) := by decide +kernel
theorem dX5_powerAt_32 : decode cX5_powerAt 32 = .ok (.lreturn, 1) := by decide +kernel
theorem dX5_power_0 : decode cX5_power 0 = .ok (.aload_n 0, 1) := by decide +kernel
theorem dX5_power_1 : decode cX5_power 1 = .ok (.iload_n 1, 1) := by decide +kernel
theorem dX5_power_2 : decode cX5_power 2 = .ok (.invokevirtual 72, 3) := by decide +kernel
theorem dX5_power_5 : decode cX5_power 5 = .ok (.ifCond .eq 11, 3) := by decide +kernel
theorem dX5_power_8 : decode cX5_power 8 = .ok (.aload_n 0, 1) := by decide +kernel
theorem dX5_power_9 : decode cX5_power 9 = .ok (.iload_n 1, 1) := by decide +kernel
theorem dX5_power_10 : decode cX5_power 10 = .ok (.invokevirtual 101, 3) := by decide +kernel
theorem dX5_power_13 : decode cX5_power 13 = .ok (.goto 6, 3) := by decide +kernel
theorem dX5_power_16 : decode cX5_power 16 = .ok (.ldc2_w 105, 3) := by decide +kernel
theorem dX5_power_19 : decode cX5_power 19 = .ok (.lreturn, 1) := by decide +kernel
theorem dX5_extreme_0 : decode cX5_extreme 0 = .ok (.aload_n 0, 1) := by decide +kernel
theorem dX5_extreme_1 : decode cX5_extreme 1 = .ok (.getfield 7, 3) := by decide +kernel
theorem dX5_extreme_4 : decode cX5_extreme 4 = .ok (.iload_n 1, 1) := by decide +kernel
theorem dX5_extreme_5 : decode cX5_extreme 5 = .ok (.iaload, 1) := by decide +kernel
theorem dX5_extreme_6 : decode cX5_extreme 6 = .ok (.istore_n 3, 1) := by decide +kernel
theorem dX5_extreme_7 : decode cX5_extreme 7 = .ok (.iconst 1, 1) := by decide +kernel
theorem dX5_extreme_8 : decode cX5_extreme 8 = .ok (.istore 4, 2) := by decide +kernel
theorem dX5_extreme_10 : decode cX5_extreme 10 = .ok (.iload 4, 2) := by decide +kernel
theorem dX5_extreme_12 : decode cX5_extreme 12 = .ok (.bipush 21, 2) := by decide +kernel
theorem dX5_extreme_14 : decode cX5_extreme 14 = .ok (.if_icmp .ge 73, 3) := by decide +kernel
theorem dX5_extreme_17 : decode cX5_extreme 17 = .ok (.iload_n 2, 1) := by decide +kernel
theorem dX5_extreme_18 : decode cX5_extreme 18 = .ok (.ifCond .eq 24, 3) := by decide +kernel
theorem dX5_extreme_21 : decode cX5_extreme 21 = .ok (.aload_n 0, 1) := by decide +kernel
theorem dX5_extreme_22 : decode cX5_extreme 22 = .ok (.getfield 7, 3) := by decide +kernel
theorem dX5_extreme_25 : decode cX5_extreme 25 = .ok (.iload_n 1, 1) := by decide +kernel
theorem dX5_extreme_26 : decode cX5_extreme 26 = .ok (.iload 4, 2) := by decide +kernel
theorem dX5_extreme_28 : decode cX5_extreme 28 = .ok (.iadd, 1) := by decide +kernel
theorem dX5_extreme_29 : decode cX5_extreme 29 = .ok (.iaload, 1) := by decide +kernel
theorem dX5_extreme_30 : decode cX5_extreme 30 = .ok (.iload_n 3, 1) := by decide +kernel
theorem dX5_extreme_31 : decode cX5_extreme 31 = .ok (.if_icmp .le 7, 3) := by decide +kernel
theorem dX5_extreme_34 : decode cX5_extreme 34 = .ok (.iconst 1, 1) := by decide +kernel
theorem dX5_extreme_35 : decode cX5_extreme 35 = .ok (.goto 25, 3) := by decide +kernel
theorem dX5_extreme_38 : decode cX5_extreme 38 = .ok (.iconst 0, 1) := by decide +kernel
theorem dX5_extreme_39 : decode cX5_extreme 39 = .ok (.goto 21, 3) := by decide +kernel
theorem dX5_extreme_42 : decode cX5_extreme 42 = .ok (.aload_n 0, 1) := by decide +kernel
theorem dX5_extreme_43 : decode cX5_extreme 43 = .ok (.getfield 7, 3) := by decide +kernel
theorem dX5_extreme_46 : decode cX5_extreme 46 = .ok (.iload_n 1, 1) := by decide +kernel
theorem dX5_extreme_47 : decode cX5_extreme 47 = .ok (.iload 4, 2) := by decide +kernel
theorem dX5_extreme_49 : decode cX5_extreme 49 = .ok (.iadd, 1) := by decide +kernel
theorem dX5_extreme_50 : decode cX5_extreme 50 = .ok (.iaload, 1) := by decide +kernel
theorem dX5_extreme_51 : decode cX5_extreme 51 = .ok (.iload_n 3, 1) := by decide +kernel
theorem dX5_extreme_52 : decode cX5_extreme 52 = .ok (.if_icmp .ge 7, 3) := by decide +kernel
theorem dX5_extreme_55 : decode cX5_extreme 55 = .ok (.iconst 1, 1) := by decide +kernel
theorem dX5_extreme_56 : decode cX5_extreme 56 = .ok (.goto 4, 3) := by decide +kernel
theorem dX5_extreme_59 : decode cX5_extreme 59 = .ok (.iconst 0, 1) := by decide +kernel
theorem dX5_extreme_60 : decode cX5_extreme 60 = .ok (.istore 5, 2) := by decide +kernel
theorem dX5_extreme_62 : decode cX5_extreme 62 = .ok (.iload 5, 2) := by decide +kernel
theorem dX5_extreme_64 : decode cX5_extreme 64 = .ok (.ifCond .eq 15, 3) := by decide +kernel
theorem dX5_extreme_67 : decode cX5_extreme 67 = .ok (.aload_n 0, 1) := by decide +kernel
theorem dX5_extreme_68 : decode cX5_extreme 68 = .ok (.getfield 7, 3) := by decide +kernel
theorem dX5_extreme_71 : decode cX5_extreme 71 = .ok (.iload_n 1, 1) := by decide +kernel
theorem dX5_extreme_72 : decode cX5_extreme 72 = .ok (.iload 4, 2) := by decide +kernel
theorem dX5_extreme_74 : decode cX5_extreme 74 = .ok (.iadd, 1) := by decide +kernel
theorem dX5_extreme_75 : decode cX5_extreme 75 = .ok (.iaload, 1) := by decide +kernel
theorem dX5_extreme_76 : decode cX5_extreme 76 = .ok (.goto 4, 3) := by decide +kernel
theorem dX5_extreme_79 : decode cX5_extreme 79 = .ok (.iload_n 3, 1) := by decide +kernel
theorem dX5_extreme_80 : decode cX5_extreme 80 = .ok (.istore_n 3, 1) := by decide +kernel
theorem dX5_extreme_81 : decode cX5_extreme 81 = .ok (.iinc 4 1, 3) := by decide +kernel
theorem dX5_extreme_84 : decode cX5_extreme 84 = .ok (.goto (-74), 3) := by decide +kernel
theorem dX5_extreme_87 : decode cX5_extreme 87 = .ok (.iload_n 3, 1) := by decide +kernel
theorem dX5_extreme_88 : decode cX5_extreme 88 = .ok (.ireturn, 1) := by decide +kernel
theorem dX5_admission_0 : decode cX5_admission 0 = .ok (.aload_n 0, 1) := by decide +kernel
theorem dX5_admission_1 : decode cX5_admission 1 = .ok (.iload_n 1, 1) := by decide +kernel
theorem dX5_admission_2 : decode cX5_admission 2 = .ok (.iconst 1, 1) := by decide +kernel
theorem dX5_admission_3 : decode cX5_admission 3 = .ok (.invokevirtual 107, 3) := by decide +kernel
theorem dX5_admission_6 : decode cX5_admission 6 = .ok (.aload_n 0, 1) := by decide +kernel
theorem dX5_admission_7 : decode cX5_admission 7 = .ok (.getfield 7, 3) := by decide +kernel
theorem dX5_admission_10 : decode cX5_admission 10 = .ok (.bipush 6, 2) := by decide +kernel
theorem dX5_admission_12 : decode cX5_admission 12 = .ok (.iaload, 1) := by decide +kernel
theorem dX5_admission_13 : decode cX5_admission 13 = .ok (.isub, 1) := by decide +kernel
theorem dX5_admission_14 : decode cX5_admission 14 = .ok (.istore_n 2, 1) := by decide +kernel
theorem dX5_admission_15 : decode cX5_admission 15 = .ok (.iconst 0, 1) := by decide +kernel
theorem dX5_admission_16 : decode cX5_admission 16 = .ok (.istore_n 3, 1) := by decide +kernel
theorem dX5_admission_17 : decode cX5_admission 17 = .ok (.aload_n 0, 1) := by decide +kernel
theorem dX5_admission_18 : decode cX5_admission 18 = .ok (.getfield 7, 3) := by decide +kernel
theorem dX5_admission_21 : decode cX5_admission 21 = .ok (.iload_n 1, 1) := by decide +kernel
theorem dX5_admission_22 : decode cX5_admission 22 = .ok (.iload_n 3, 1) := by decide +kernel
theorem dX5_admission_23 : decode cX5_admission 23 = .ok (.iadd, 1) := by decide +kernel
theorem dX5_admission_24 : decode cX5_admission 24 = .ok (.iaload, 1) := by decide +kernel
theorem dX5_admission_25 : decode cX5_admission 25 = .ok (.iload_n 2, 1) := by decide +kernel
theorem dX5_admission_26 : decode cX5_admission 26 = .ok (.if_icmp .ge 9, 3) := by decide +kernel
theorem dX5_admission_29 : decode cX5_admission 29 = .ok (.iinc 3 1, 3) := by decide +kernel
theorem dX5_admission_32 : decode cX5_admission 32 = .ok (.goto (-15), 3) := by decide +kernel
theorem dX5_admission_35 : decode cX5_admission 35 = .ok (.iload_n 3, 1) := by decide +kernel
theorem dX5_admission_36 : decode cX5_admission 36 = .ok (.ireturn, 1) := by decide +kernel
theorem dX5_cutOff_0 : decode cX5_cutOff 0 = .ok (.aload_n 0, 1) := by decide +kernel
theorem dX5_cutOff_1 : decode cX5_cutOff 1 = .ok (.iload_n 1, 1) := by decide +kernel
theorem dX5_cutOff_2 : decode cX5_cutOff 2 = .ok (.iconst 1, 1) := by decide +kernel
theorem dX5_cutOff_3 : decode cX5_cutOff 3 = .ok (.invokevirtual 107, 3) := by decide +kernel
theorem dX5_cutOff_6 : decode cX5_cutOff 6 = .ok (.aload_n 0, 1) := by decide +kernel
theorem dX5_cutOff_7 : decode cX5_cutOff 7 = .ok (.getfield 7, 3) := by decide +kernel
theorem dX5_cutOff_10 : decode cX5_cutOff 10 = .ok (.bipush 6, 2) := by decide +kernel
theorem dX5_cutOff_12 : decode cX5_cutOff 12 = .ok (.iaload, 1) := by decide +kernel
theorem dX5_cutOff_13 : decode cX5_cutOff 13 = .ok (.isub, 1) := by decide +kernel
theorem dX5_cutOff_14 : decode cX5_cutOff 14 = .ok (.istore_n 2, 1) := by decide +kernel
theorem dX5_cutOff_15 : decode cX5_cutOff 15 = .ok (.aload_n 0, 1) := by decide +kernel
theorem dX5_cutOff_16 : decode cX5_cutOff 16 = .ok (.iload_n 1, 1) := by decide +kernel
theorem dX5_cutOff_17 : decode cX5_cutOff 17 = .ok (.invokevirtual 110, 3) := by decide +kernel
theorem dX5_cutOff_20 : decode cX5_cutOff 20 = .ok (.istore_n 3, 1) := by decide +kernel
theorem dX5_cutOff_21 : decode cX5_cutOff 21 = .ok (.iload_n 3, 1) := by decide +kernel
theorem dX5_cutOff_22 : decode cX5_cutOff 22 = .ok (.bipush 20, 2) := by decide +kernel
theorem dX5_cutOff_24 : decode cX5_cutOff 24 = .ok (.if_icmp .ge 23, 3) := by decide +kernel
theorem dX5_cutOff_27 : decode cX5_cutOff 27 = .ok (.aload_n 0, 1) := by decide +kernel
theorem dX5_cutOff_28 : decode cX5_cutOff 28 = .ok (.getfield 7, 3) := by decide +kernel
theorem dX5_cutOff_31 : decode cX5_cutOff 31 = .ok (.iload_n 1, 1) := by decide +kernel
theorem dX5_cutOff_32 : decode cX5_cutOff 32 = .ok (.iload_n 3, 1) := by decide +kernel
theorem dX5_cutOff_33 : decode cX5_cutOff 33 = .ok (.iadd, 1) := by decide +kernel
theorem dX5_cutOff_34 : decode cX5_cutOff 34 = .ok (.iconst 1, 1) := by decide +kernel
theorem dX5_cutOff_35 : decode cX5_cutOff 35 = .ok (.iadd, 1) := by decide +kernel
theorem dX5_cutOff_36 : decode cX5_cutOff 36 = .ok (.iaload, 1) := by decide +kernel
theorem dX5_cutOff_37 : decode cX5_cutOff 37 = .ok (.iload_n 2, 1) := by decide +kernel
theorem dX5_cutOff_38 : decode cX5_cutOff 38 = .ok (.if_icmp .lt 9, 3) := by decide +kernel
theorem dX5_cutOff_41 : decode cX5_cutOff 41 = .ok (.iinc 3 1, 3) := by decide +kernel
theorem dX5_cutOff_44 : decode cX5_cutOff 44 = .ok (.goto (-23), 3) := by decide +kernel
theorem dX5_cutOff_47 : decode cX5_cutOff 47 = .ok (.iload_n 3, 1) := by decide +kernel
theorem dX5_cutOff_48 : decode cX5_cutOff 48 = .ok (.ireturn, 1) := by decide +kernel
theorem dX5_constantAt_0 : decode cX5_constantAt 0 = .ok (.aload_n 0, 1) := by decide +kernel
theorem dX5_constantAt_1 : decode cX5_constantAt 1 = .ok (.getfield 7, 3) := by decide +kernel
theorem dX5_constantAt_4 : decode cX5_constantAt 4 = .ok (.iload_n 1, 1) := by decide +kernel
theorem dX5_constantAt_5 : decode cX5_constantAt 5 = .ok (.iload_n 2, 1) := by decide +kernel
theorem dX5_constantAt_6 : decode cX5_constantAt 6 = .ok (.iadd, 1) := by decide +kernel
theorem dX5_constantAt_7 : decode cX5_constantAt 7 = .ok (.iaload, 1) := by decide +kernel
theorem dX5_constantAt_8 : decode cX5_constantAt 8 = .ok (.aload_n 0, 1) := by decide +kernel
theorem dX5_constantAt_9 : decode cX5_constantAt 9 = .ok (.iload_n 2, 1) := by decide +kernel
theorem dX5_constantAt_10 : decode cX5_constantAt 10 = .ok (.invokevirtual 60, 3) := by decide +kernel
theorem dX5_constantAt_13 : decode cX5_constantAt 13 = .ok (.imul, 1) := by decide +kernel
theorem dX5_constantAt_14 : decode cX5_constantAt 14 = .ok (.ireturn, 1) := by decide +kernel
theorem dX5_release_0 : decode cX5_release 0 = .ok (.aload_n 0, 1) := by decide +kernel
theorem dX5_release_1 : decode cX5_release 1 = .ok (.iload_n 1, 1) := by decide +kernel
theorem dX5_release_2 : decode cX5_release 2 = .ok (.invokevirtual 113, 3) := by decide +kernel
theorem dX5_release_5 : decode cX5_release 5 = .ok (.istore_n 2, 1) := by decide +kernel
theorem dX5_release_6 : decode cX5_release 6 = .ok (.aload_n 0, 1) := by decide +kernel
theorem dX5_release_7 : decode cX5_release 7 = .ok (.iload_n 1, 1) := by decide +kernel
theorem dX5_release_8 : decode cX5_release 8 = .ok (.iload_n 2, 1) := by decide +kernel
theorem dX5_release_9 : decode cX5_release 9 = .ok (.invokevirtual 116, 3) := by decide +kernel
theorem dX5_release_12 : decode cX5_release 12 = .ok (.bipush 100, 2) := by decide +kernel
theorem dX5_release_14 : decode cX5_release 14 = .ok (.aload_n 0, 1) := by decide +kernel
theorem dX5_release_15 : decode cX5_release 15 = .ok (.getfield 7, 3) := by decide +kernel
theorem dX5_release_18 : decode cX5_release 18 = .ok (.bipush 7, 2) := by decide +kernel
theorem dX5_release_20 : decode cX5_release 20 = .ok (.iaload, 1) := by decide +kernel
theorem dX5_release_21 : decode cX5_release 21 = .ok (.isub, 1) := by decide +kernel
theorem dX5_release_22 : decode cX5_release 22 = .ok (.imul, 1) := by decide +kernel
theorem dX5_release_23 : decode cX5_release 23 = .ok (.istore_n 3, 1) := by decide +kernel
theorem dX5_release_24 : decode cX5_release 24 = .ok (.iload_n 2, 1) := by decide +kernel
theorem dX5_release_25 : decode cX5_release 25 = .ok (.iconst 1, 1) := by decide +kernel
theorem dX5_release_26 : decode cX5_release 26 = .ok (.iadd, 1) := by decide +kernel
theorem dX5_release_27 : decode cX5_release 27 = .ok (.istore 4, 2) := by decide +kernel
theorem dX5_release_29 : decode cX5_release 29 = .ok (.iload 4, 2) := by decide +kernel
theorem dX5_release_31 : decode cX5_release 31 = .ok (.bipush 20, 2) := by decide +kernel
theorem dX5_release_33 : decode cX5_release 33 = .ok (.if_icmp .gt 23, 3) := by decide +kernel
theorem dX5_release_36 : decode cX5_release 36 = .ok (.aload_n 0, 1) := by decide +kernel
theorem dX5_release_37 : decode cX5_release 37 = .ok (.iload_n 1, 1) := by decide +kernel
theorem dX5_release_38 : decode cX5_release 38 = .ok (.iload 4, 2) := by decide +kernel
theorem dX5_release_40 : decode cX5_release 40 = .ok (.invokevirtual 116, 3) := by decide +kernel
theorem dX5_release_43 : decode cX5_release 43 = .ok (.bipush 100, 2) := by decide +kernel
theorem dX5_release_45 : decode cX5_release 45 = .ok (.imul, 1) := by decide +kernel
theorem dX5_release_46 : decode cX5_release 46 = .ok (.iload_n 3, 1) := by decide +kernel
theorem dX5_release_47 : decode cX5_release 47 = .ok (.if_icmp .lt 9, 3) := by decide +kernel
theorem dX5_release_50 : decode cX5_release 50 = .ok (.iinc 4 1, 3) := by decide +kernel
theorem dX5_release_53 : decode cX5_release 53 = .ok (.goto (-24), 3) := by decide +kernel
theorem dX5_release_56 : decode cX5_release 56 = .ok (.iload 4, 2) := by decide +kernel
theorem dX5_release_58 : decode cX5_release 58 = .ok (.bipush 20, 2) := by decide +kernel
theorem dX5_release_60 : decode cX5_release 60 = .ok (.if_icmp .le 8, 3) := by decide +kernel
theorem dX5_release_63 : decode cX5_release 63 = .ok (.bipush 20, 2) := by decide +kernel
theorem dX5_release_65 : decode cX5_release 65 = .ok (.goto 5, 3) := by decide +kernel
theorem dX5_release_68 : decode cX5_release 68 = .ok (.iload 4, 2) := by decide +kernel
theorem dX5_release_70 : decode cX5_release 70 = .ok (.ireturn, 1) := by decide +kernel
theorem dX5_compression_0 : decode cX5_compression 0 = .ok (.aload_n 0, 1) := by decide +kernel
theorem dX5_compression_1 : decode cX5_compression 1 = .ok (.iload_n 1, 1) := by decide +kernel
theorem dX5_compression_2 : decode cX5_compression 2 = .ok (.bipush 21, 2) := by decide +kernel
theorem dX5_compression_4 : decode cX5_compression 4 = .ok (.iadd, 1) := by decide +kernel
theorem dX5_compression_5 : decode cX5_compression 5 = .ok (.iconst 0, 1) := by decide +kernel
theorem dX5_compression_6 : decode cX5_compression 6 = .ok (.invokevirtual 107, 3) := by decide +kernel
theorem dX5_compression_9 : decode cX5_compression 9 = .ok (.aload_n 0, 1) := by decide +kernel
theorem dX5_compression_10 : decode cX5_compression 10 = .ok (.getfield 7, 3) := by decide +kernel
theorem dX5_compression_13 : decode cX5_compression 13 = .ok (.bipush 6, 2) := by decide +kernel
theorem dX5_compression_15 : decode cX5_compression 15 = .ok (.iaload, 1) := by decide +kernel
theorem dX5_compression_16 : decode cX5_compression 16 = .ok (.iadd, 1) := by decide +kernel
theorem dX5_compression_17 : decode cX5_compression 17 = .ok (.istore_n 2, 1) := by decide +kernel
theorem dX5_compression_18 : decode cX5_compression 18 = .ok (.bipush 21, 2) := by decide +kernel
theorem dX5_compression_20 : decode cX5_compression 20 = .ok (.istore_n 3, 1) := by decide +kernel
theorem dX5_compression_21 : decode cX5_compression 21 = .ok (.iload_n 3, 1) := by decide +kernel
theorem dX5_compression_22 : decode cX5_compression 22 = .ok (.ifCond .le 26, 3) := by decide +kernel
theorem dX5_compression_25 : decode cX5_compression 25 = .ok (.aload_n 0, 1) := by decide +kernel
theorem dX5_compression_26 : decode cX5_compression 26 = .ok (.getfield 7, 3) := by decide +kernel
theorem dX5_compression_29 : decode cX5_compression 29 = .ok (.iload_n 1, 1) := by decide +kernel
theorem dX5_compression_30 : decode cX5_compression 30 = .ok (.bipush 21, 2) := by decide +kernel
theorem dX5_compression_32 : decode cX5_compression 32 = .ok (.iadd, 1) := by decide +kernel
theorem dX5_compression_33 : decode cX5_compression 33 = .ok (.iload_n 3, 1) := by decide +kernel
theorem dX5_compression_34 : decode cX5_compression 34 = .ok (.iadd, 1) := by decide +kernel
theorem dX5_compression_35 : decode cX5_compression 35 = .ok (.iconst 1, 1) := by decide +kernel
theorem dX5_compression_36 : decode cX5_compression 36 = .ok (.isub, 1) := by decide +kernel
theorem dX5_compression_37 : decode cX5_compression 37 = .ok (.iaload, 1) := by decide +kernel
theorem dX5_compression_38 : decode cX5_compression 38 = .ok (.iload_n 2, 1) := by decide +kernel
theorem dX5_compression_39 : decode cX5_compression 39 = .ok (.if_icmp .gt 9, 3) := by decide +kernel
theorem dX5_compression_42 : decode cX5_compression 42 = .ok (.iinc 3 (-1), 3) := by decide +kernel
theorem dX5_compression_45 : decode cX5_compression 45 = .ok (.goto (-24), 3) := by decide +kernel
theorem dX5_compression_48 : decode cX5_compression 48 = .ok (.iload_n 3, 1) := by decide +kernel
theorem dX5_compression_49 : decode cX5_compression 49 = .ok (.bipush 20, 2) := by decide +kernel
theorem dX5_compression_51 : decode cX5_compression 51 = .ok (.if_icmp .le 8, 3) := by decide +kernel
theorem dX5_compression_54 : decode cX5_compression 54 = .ok (.bipush 20, 2) := by decide +kernel
theorem dX5_compression_56 : decode cX5_compression 56 = .ok (.goto 4, 3) := by decide +kernel
theorem dX5_compression_59 : decode cX5_compression 59 = .ok (.iload_n 3, 1) := by decide +kernel
theorem dX5_compression_60 : decode cX5_compression 60 = .ok (.ireturn, 1) := by decide +kernel
theorem dX5_eventOf_0 : decode cX5_eventOf 0 = .ok (.iload_n 1, 1) := by decide +kernel
theorem dX5_eventOf_1 : decode cX5_eventOf 1 = .ok (.invokestatic 49, 3) := by decide +kernel
theorem dX5_eventOf_4 : decode cX5_eventOf 4 = .ok (.istore_n 3, 1) := by decide +kernel
theorem dX5_eventOf_5 : decode cX5_eventOf 5 = .ok (.iload_n 2, 1) := by decide +kernel
theorem dX5_eventOf_6 : decode cX5_eventOf 6 = .ok (.ifCond .ne 11, 3) := by decide +kernel
theorem dX5_eventOf_9 : decode cX5_eventOf 9 = .ok (.aload_n 0, 1) := by decide +kernel
theorem dX5_eventOf_10 : decode cX5_eventOf 10 = .ok (.iload_n 3, 1) := by decide +kernel
theorem dX5_eventOf_11 : decode cX5_eventOf 11 = .ok (.invokevirtual 110, 3) := by decide +kernel
theorem dX5_eventOf_14 : decode cX5_eventOf 14 = .ok (.goto 34, 3) := by decide +kernel
theorem dX5_eventOf_17 : decode cX5_eventOf 17 = .ok (.iload_n 2, 1) := by decide +kernel
theorem dX5_eventOf_18 : decode cX5_eventOf 18 = .ok (.iconst 1, 1) := by decide +kernel
theorem dX5_eventOf_19 : decode cX5_eventOf 19 = .ok (.if_icmp .ne 11, 3) := by decide +kernel
theorem dX5_eventOf_22 : decode cX5_eventOf 22 = .ok (.aload_n 0, 1) := by decide +kernel
theorem dX5_eventOf_23 : decode cX5_eventOf 23 = .ok (.iload_n 3, 1) := by decide +kernel
theorem dX5_eventOf_24 : decode cX5_eventOf 24 = .ok (.invokevirtual 113, 3) := by decide +kernel
theorem dX5_eventOf_27 : decode cX5_eventOf 27 = .ok (.goto 21, 3) := by decide +kernel
theorem dX5_eventOf_30 : decode cX5_eventOf 30 = .ok (.iload_n 2, 1) := by decide +kernel
theorem dX5_eventOf_31 : decode cX5_eventOf 31 = .ok (.iconst 2, 1) := by decide +kernel
theorem dX5_eventOf_32 : decode cX5_eventOf 32 = .ok (.if_icmp .ne 11, 3) := by decide +kernel
theorem dX5_eventOf_35 : decode cX5_eventOf 35 = .ok (.aload_n 0, 1) := by decide +kernel
theorem dX5_eventOf_36 : decode cX5_eventOf 36 = .ok (.iload_n 3, 1) := by decide +kernel
theorem dX5_eventOf_37 : decode cX5_eventOf 37 = .ok (.invokevirtual 119, 3) := by decide +kernel
theorem dX5_eventOf_40 : decode cX5_eventOf 40 = .ok (.goto 8, 3) := by decide +kernel
theorem dX5_eventOf_43 : decode cX5_eventOf 43 = .ok (.aload_n 0, 1) := by decide +kernel
theorem dX5_eventOf_44 : decode cX5_eventOf 44 = .ok (.iload_n 3, 1) := by decide +kernel
theorem dX5_eventOf_45 : decode cX5_eventOf 45 = .ok (.invokevirtual 122, 3) := by decide +kernel
theorem dX5_eventOf_48 : decode cX5_eventOf 48 = .ok (.ireturn, 1) := by decide +kernel
theorem dX5_latenessOf_0 : decode cX5_latenessOf 0 = .ok (.aload_n 0, 1) := by decide +kernel
theorem dX5_latenessOf_1 : decode cX5_latenessOf 1 = .ok (.iload_n 1, 1) := by decide +kernel
theorem dX5_latenessOf_2 : decode cX5_latenessOf 2 = .ok (.iload_n 2, 1) := by decide +kernel
theorem dX5_latenessOf_3 : decode cX5_latenessOf 3 = .ok (.invokevirtual 125, 3) := by decide +kernel
theorem dX5_latenessOf_6 : decode cX5_latenessOf 6 = .ok (.aload_n 0, 1) := by decide +kernel
theorem dX5_latenessOf_7 : decode cX5_latenessOf 7 = .ok (.aload_n 0, 1) := by decide +kernel
theorem dX5_latenessOf_8 : decode cX5_latenessOf 8 = .ok (.getfield 7, 3) := by decide +kernel
theorem dX5_latenessOf_11 : decode cX5_latenessOf 11 = .ok (.iload_n 1, 1) := by decide +kernel
theorem dX5_latenessOf_12 : decode cX5_latenessOf 12 = .ok (.invokestatic 46, 3) := by decide +kernel
theorem dX5_latenessOf_15 : decode cX5_latenessOf 15 = .ok (.iaload, 1) := by decide +kernel
theorem dX5_latenessOf_16 : decode cX5_latenessOf 16 = .ok (.iload_n 2, 1) := by decide +kernel
theorem dX5_latenessOf_17 : decode cX5_latenessOf 17 = .ok (.invokevirtual 65, 3) := by decide +kernel
theorem dX5_latenessOf_20 : decode cX5_latenessOf 20 = .ok (.isub, 1) := by decide +kernel
theorem dX5_latenessOf_21 : decode cX5_latenessOf 21 = .ok (.istore_n 3, 1) := by decide +kernel
theorem dX5_latenessOf_22 : decode cX5_latenessOf 22 = .ok (.iload_n 2, 1) := by decide +kernel
theorem dX5_latenessOf_23 : decode cX5_latenessOf 23 = .ok (.iconst 3, 1) := by decide +kernel
theorem dX5_latenessOf_24 : decode cX5_latenessOf 24 = .ok (.if_icmp .ne 8, 3) := by decide +kernel
theorem dX5_latenessOf_27 : decode cX5_latenessOf 27 = .ok (.iload_n 3, 1) := by decide +kernel
theorem dX5_latenessOf_28 : decode cX5_latenessOf 28 = .ok (.ineg, 1) := by decide +kernel
theorem dX5_latenessOf_29 : decode cX5_latenessOf 29 = .ok (.goto 4, 3) := by decide +kernel
theorem dX5_latenessOf_32 : decode cX5_latenessOf 32 = .ok (.iload_n 3, 1) := by decide +kernel
theorem dX5_latenessOf_33 : decode cX5_latenessOf 33 = .ok (.ireturn, 1) := by decide +kernel
theorem dX5_event_0 : decode cX5_event 0 = .ok (.aload_n 0, 1) := by decide +kernel
theorem dX5_event_1 : decode cX5_event 1 = .ok (.iload_n 1, 1) := by decide +kernel
theorem dX5_event_2 : decode cX5_event 2 = .ok (.invokevirtual 72, 3) := by decide +kernel
theorem dX5_event_5 : decode cX5_event 5 = .ok (.ifCond .eq 21, 3) := by decide +kernel
theorem dX5_event_8 : decode cX5_event 8 = .ok (.iload_n 2, 1) := by decide +kernel
theorem dX5_event_9 : decode cX5_event 9 = .ok (.iconst 0, 1) := by decide +kernel
theorem dX5_event_10 : decode cX5_event 10 = .ok (.iconst 3, 1) := by decide +kernel
theorem dX5_event_11 : decode cX5_event 11 = .ok (.invokestatic 13, 3) := by decide +kernel
theorem dX5_event_14 : decode cX5_event 14 = .ok (.ifCond .eq 12, 3) := by decide +kernel
theorem dX5_event_17 : decode cX5_event 17 = .ok (.aload_n 0, 1) := by decide +kernel
theorem dX5_event_18 : decode cX5_event 18 = .ok (.iload_n 1, 1) := by decide +kernel
theorem dX5_event_19 : decode cX5_event 19 = .ok (.iload_n 2, 1) := by decide +kernel
theorem dX5_event_20 : decode cX5_event 20 = .ok (.invokevirtual 125, 3) := by decide +kernel
theorem dX5_event_23 : decode cX5_event 23 = .ok (.goto 5, 3) := by decide +kernel
theorem dX5_event_26 : decode cX5_event 26 = .ok (.ldc 26, 2) := by decide +kernel
theorem dX5_event_28 : decode cX5_event 28 = .ok (.ireturn, 1) := by decide +kernel
theorem dX5_lateness_0 : decode cX5_lateness 0 = .ok (.aload_n 0, 1) := by decide +kernel
theorem dX5_lateness_1 : decode cX5_lateness 1 = .ok (.iload_n 1, 1) := by decide +kernel
theorem dX5_lateness_2 : decode cX5_lateness 2 = .ok (.invokevirtual 72, 3) := by decide +kernel
theorem dX5_lateness_5 : decode cX5_lateness 5 = .ok (.ifCond .eq 21, 3) := by decide +kernel
theorem dX5_lateness_8 : decode cX5_lateness 8 = .ok (.iload_n 2, 1) := by decide +kernel
theorem dX5_lateness_9 : decode cX5_lateness 9 = .ok (.iconst 0, 1) := by decide +kernel
theorem dX5_lateness_10 : decode cX5_lateness 10 = .ok (.iconst 3, 1) := by decide +kernel
theorem dX5_lateness_11 : decode cX5_lateness 11 = .ok (.invokestatic 13, 3) := by decide +kernel
theorem dX5_lateness_14 : decode cX5_lateness 14 = .ok (.ifCond .eq 12, 3) := by decide +kernel
theorem dX5_lateness_17 : decode cX5_lateness 17 = .ok (.aload_n 0, 1) := by decide +kernel
theorem dX5_lateness_18 : decode cX5_lateness 18 = .ok (.iload_n 1, 1) := by decide +kernel
theorem dX5_lateness_19 : decode cX5_lateness 19 = .ok (.iload_n 2, 1) := by decide +kernel
theorem dX5_lateness_20 : decode cX5_lateness 20 = .ok (.invokevirtual 128, 3) := by decide +kernel
theorem dX5_lateness_23 : decode cX5_lateness 23 = .ok (.goto 5, 3) := by decide +kernel
theorem dX5_lateness_26 : decode cX5_lateness 26 = .ok (.ldc 26, 2) := by decide +kernel
theorem dX5_lateness_28 : decode cX5_lateness 28 = .ok (.ireturn, 1) := by decide +kernel
theorem dX5_offBy_0 : decode cX5_offBy 0 = .ok (.iconst 0, 1) := by decide +kernel
theorem dX5_offBy_1 : decode cX5_offBy 1 = .ok (.istore_n 3, 1) := by decide +kernel
theorem dX5_offBy_2 : decode cX5_offBy 2 = .ok (.iconst 0, 1) := by decide +kernel
theorem dX5_offBy_3 : decode cX5_offBy 3 = .ok (.istore 4, 2) := by decide +kernel
theorem dX5_offBy_5 : decode cX5_offBy 5 = .ok (.iload 4, 2) := by decide +kernel
theorem dX5_offBy_7 : decode cX5_offBy 7 = .ok (.iconst 4, 1) := by decide +kernel
theorem dX5_offBy_8 : decode cX5_offBy 8 = .ok (.if_icmp .ge 24, 3) := by decide +kernel
theorem dX5_offBy_11 : decode cX5_offBy 11 = .ok (.iload_n 3, 1) := by decide +kernel
theorem dX5_offBy_12 : decode cX5_offBy 12 = .ok (.aload_n 0, 1) := by decide +kernel
theorem dX5_offBy_13 : decode cX5_offBy 13 = .ok (.iload_n 1, 1) := by decide +kernel
theorem dX5_offBy_14 : decode cX5_offBy 14 = .ok (.iload 4, 2) := by decide +kernel
theorem dX5_offBy_16 : decode cX5_offBy 16 = .ok (.invokevirtual 128, 3) := by decide +kernel
theorem dX5_offBy_19 : decode cX5_offBy 19 = .ok (.iload_n 2, 1) := by decide +kernel
theorem dX5_offBy_20 : decode cX5_offBy 20 = .ok (.isub, 1) := by decide +kernel
theorem dX5_offBy_21 : decode cX5_offBy 21 = .ok (.invokestatic 131, 3) := by decide +kernel
theorem dX5_offBy_24 : decode cX5_offBy 24 = .ok (.iadd, 1) := by decide +kernel
theorem dX5_offBy_25 : decode cX5_offBy 25 = .ok (.istore_n 3, 1) := by decide +kernel
theorem dX5_offBy_26 : decode cX5_offBy 26 = .ok (.iinc 4 1, 3) := by decide +kernel
theorem dX5_offBy_29 : decode cX5_offBy 29 = .ok (.goto (-24), 3) := by decide +kernel
theorem dX5_offBy_32 : decode cX5_offBy 32 = .ok (.iload_n 3, 1) := by decide +kernel
theorem dX5_offBy_33 : decode cX5_offBy 33 = .ok (.ireturn, 1) := by decide +kernel
theorem dX5_slip_0 : decode cX5_slip 0 = .ok (.aload_n 0, 1) := by decide +kernel
theorem dX5_slip_1 : decode cX5_slip 1 = .ok (.iload_n 1, 1) := by decide +kernel
theorem dX5_slip_2 : decode cX5_slip 2 = .ok (.invokevirtual 72, 3) := by decide +kernel
theorem dX5_slip_5 : decode cX5_slip 5 = .ok (.ifCond .ne 6, 3) := by decide +kernel
theorem dX5_slip_8 : decode cX5_slip 8 = .ok (.ldc 26, 2) := by decide +kernel
theorem dX5_slip_10 : decode cX5_slip 10 = .ok (.ireturn, 1) := by decide +kernel
theorem dX5_slip_11 : decode cX5_slip 11 = .ok (.iconst 0, 1) := by decide +kernel
theorem dX5_slip_12 : decode cX5_slip 12 = .ok (.istore_n 2, 1) := by decide +kernel
theorem dX5_slip_13 : decode cX5_slip 13 = .ok (.iconst 1, 1) := by decide +kernel
theorem dX5_slip_14 : decode cX5_slip 14 = .ok (.istore_n 3, 1) := by decide +kernel
theorem dX5_slip_15 : decode cX5_slip 15 = .ok (.iload_n 3, 1) := by decide +kernel
theorem dX5_slip_16 : decode cX5_slip 16 = .ok (.bipush 6, 2) := by decide +kernel
theorem dX5_slip_18 : decode cX5_slip 18 = .ok (.if_icmp .ge 53, 3) := by decide +kernel
theorem dX5_slip_21 : decode cX5_slip 21 = .ok (.aload_n 0, 1) := by decide +kernel
theorem dX5_slip_22 : decode cX5_slip 22 = .ok (.iload_n 1, 1) := by decide +kernel
theorem dX5_slip_23 : decode cX5_slip 23 = .ok (.iload_n 3, 1) := by decide +kernel
theorem dX5_slip_24 : decode cX5_slip 24 = .ok (.ineg, 1) := by decide +kernel
theorem dX5_slip_25 : decode cX5_slip 25 = .ok (.invokevirtual 134, 3) := by decide +kernel
theorem dX5_slip_28 : decode cX5_slip 28 = .ok (.aload_n 0, 1) := by decide +kernel
theorem dX5_slip_29 : decode cX5_slip 29 = .ok (.iload_n 1, 1) := by decide +kernel
theorem dX5_slip_30 : decode cX5_slip 30 = .ok (.iload_n 2, 1) := by decide +kernel
theorem dX5_slip_31 : decode cX5_slip 31 = .ok (.invokevirtual 134, 3) := by decide +kernel
theorem dX5_slip_34 : decode cX5_slip 34 = .ok (.if_icmp .ge 8, 3) := by decide +kernel
theorem dX5_slip_37 : decode cX5_slip 37 = .ok (.iload_n 3, 1) := by decide +kernel
theorem dX5_slip_38 : decode cX5_slip 38 = .ok (.ineg, 1) := by decide +kernel
theorem dX5_slip_39 : decode cX5_slip 39 = .ok (.goto 4, 3) := by decide +kernel
theorem dX5_slip_42 : decode cX5_slip 42 = .ok (.iload_n 2, 1) := by decide +kernel
theorem dX5_slip_43 : decode cX5_slip 43 = .ok (.istore_n 2, 1) := by decide +kernel
theorem dX5_slip_44 : decode cX5_slip 44 = .ok (.aload_n 0, 1) := by decide +kernel
theorem dX5_slip_45 : decode cX5_slip 45 = .ok (.iload_n 1, 1) := by decide +kernel
theorem dX5_slip_46 : decode cX5_slip 46 = .ok (.iload_n 3, 1) := by decide +kernel
theorem dX5_slip_47 : decode cX5_slip 47 = .ok (.invokevirtual 134, 3) := by decide +kernel
theorem dX5_slip_50 : decode cX5_slip 50 = .ok (.aload_n 0, 1) := by decide +kernel
theorem dX5_slip_51 : decode cX5_slip 51 = .ok (.iload_n 1, 1) := by decide +kernel
theorem dX5_slip_52 : decode cX5_slip 52 = .ok (.iload_n 2, 1) := by decide +kernel
theorem dX5_slip_53 : decode cX5_slip 53 = .ok (.invokevirtual 134, 3) := by decide +kernel
theorem dX5_slip_56 : decode cX5_slip 56 = .ok (.if_icmp .ge 7, 3) := by decide +kernel
theorem dX5_slip_59 : decode cX5_slip 59 = .ok (.iload_n 3, 1) := by decide +kernel
theorem dX5_slip_60 : decode cX5_slip 60 = .ok (.goto 4, 3) := by decide +kernel
theorem dX5_slip_63 : decode cX5_slip 63 = .ok (.iload_n 2, 1) := by decide +kernel
theorem dX5_slip_64 : decode cX5_slip 64 = .ok (.istore_n 2, 1) := by decide +kernel
theorem dX5_slip_65 : decode cX5_slip 65 = .ok (.iinc 3 1, 3) := by decide +kernel
theorem dX5_slip_68 : decode cX5_slip 68 = .ok (.goto (-53), 3) := by decide +kernel
theorem dX5_slip_71 : decode cX5_slip 71 = .ok (.iload_n 2, 1) := by decide +kernel
theorem dX5_slip_72 : decode cX5_slip 72 = .ok (.ireturn, 1) := by decide +kernel
theorem dX5_constant_0 : decode cX5_constant 0 = .ok (.aload_n 0, 1) := by decide +kernel
theorem dX5_constant_1 : decode cX5_constant 1 = .ok (.iload_n 1, 1) := by decide +kernel
theorem dX5_constant_2 : decode cX5_constant 2 = .ok (.invokevirtual 72, 3) := by decide +kernel
theorem dX5_constant_5 : decode cX5_constant 5 = .ok (.ifCond .eq 25, 3) := by decide +kernel
theorem dX5_constant_8 : decode cX5_constant 8 = .ok (.iload_n 2, 1) := by decide +kernel
theorem dX5_constant_9 : decode cX5_constant 9 = .ok (.iconst 0, 1) := by decide +kernel
theorem dX5_constant_10 : decode cX5_constant 10 = .ok (.bipush 20, 2) := by decide +kernel
theorem dX5_constant_12 : decode cX5_constant 12 = .ok (.invokestatic 13, 3) := by decide +kernel
theorem dX5_constant_15 : decode cX5_constant 15 = .ok (.ifCond .eq 15, 3) := by decide +kernel
theorem dX5_constant_18 : decode cX5_constant 18 = .ok (.aload_n 0, 1) := by decide +kernel
theorem dX5_constant_19 : decode cX5_constant 19 = .ok (.iload_n 1, 1) := by decide +kernel
theorem dX5_constant_20 : decode cX5_constant 20 = .ok (.invokestatic 49, 3) := by decide +kernel
theorem dX5_constant_23 : decode cX5_constant 23 = .ok (.iload_n 2, 1) := by decide +kernel
theorem dX5_constant_24 : decode cX5_constant 24 = .ok (.invokevirtual 116, 3) := by decide +kernel
theorem dX5_constant_27 : decode cX5_constant 27 = .ok (.goto 5, 3) := by decide +kernel
theorem dX5_constant_30 : decode cX5_constant 30 = .ok (.ldc 26, 2) := by decide +kernel
theorem dX5_constant_32 : decode cX5_constant 32 = .ok (.ireturn, 1) := by decide +kernel
theorem dX5_leakage_0 : decode cX5_leakage 0 = .ok (.aload_n 0, 1) := by decide +kernel
theorem dX5_leakage_1 : decode cX5_leakage 1 = .ok (.iload_n 1, 1) := by decide +kernel
theorem dX5_leakage_2 : decode cX5_leakage 2 = .ok (.invokevirtual 72, 3) := by decide +kernel
theorem dX5_leakage_5 : decode cX5_leakage 5 = .ok (.ifCond .ne 6, 3) := by decide +kernel
theorem dX5_leakage_8 : decode cX5_leakage 8 = .ok (.ldc 26, 2) := by decide +kernel
theorem dX5_leakage_10 : decode cX5_leakage 10 = .ok (.ireturn, 1) := by decide +kernel
theorem dX5_leakage_11 : decode cX5_leakage 11 = .ok (.aload_n 0, 1) := by decide +kernel
theorem dX5_leakage_12 : decode cX5_leakage 12 = .ok (.iload_n 1, 1) := by decide +kernel
theorem dX5_leakage_13 : decode cX5_leakage 13 = .ok (.invokestatic 49, 3) := by decide +kernel
theorem dX5_leakage_16 : decode cX5_leakage 16 = .ok (.invokevirtual 113, 3) := by decide +kernel
theorem dX5_leakage_19 : decode cX5_leakage 19 = .ok (.istore_n 2, 1) := by decide +kernel
theorem dX5_leakage_20 : decode cX5_leakage 20 = .ok (.aload_n 0, 1) := by decide +kernel
theorem dX5_leakage_21 : decode cX5_leakage 21 = .ok (.iload_n 1, 1) := by decide +kernel
theorem dX5_leakage_22 : decode cX5_leakage 22 = .ok (.invokestatic 49, 3) := by decide +kernel
theorem dX5_leakage_25 : decode cX5_leakage 25 = .ok (.invokevirtual 119, 3) := by decide +kernel
theorem dX5_leakage_28 : decode cX5_leakage 28 = .ok (.iconst 1, 1) := by decide +kernel
theorem dX5_leakage_29 : decode cX5_leakage 29 = .ok (.isub, 1) := by decide +kernel
theorem dX5_leakage_30 : decode cX5_leakage 30 = .ok (.istore_n 3, 1) := by decide +kernel
theorem dX5_leakage_31 : decode cX5_leakage 31 = .ok (.aload_n 0, 1) := by decide +kernel
theorem dX5_leakage_32 : decode cX5_leakage 32 = .ok (.iload_n 1, 1) := by decide +kernel
theorem dX5_leakage_33 : decode cX5_leakage 33 = .ok (.invokestatic 49, 3) := by decide +kernel
theorem dX5_leakage_36 : decode cX5_leakage 36 = .ok (.iload_n 2, 1) := by decide +kernel
theorem dX5_leakage_37 : decode cX5_leakage 37 = .ok (.invokevirtual 116, 3) := by decide +kernel
theorem dX5_leakage_40 : decode cX5_leakage 40 = .ok (.istore 4, 2) := by decide +kernel
theorem dX5_leakage_42 : decode cX5_leakage 42 = .ok (.iload_n 3, 1) := by decide +kernel
theorem dX5_leakage_43 : decode cX5_leakage 43 = .ok (.iload_n 2, 1) := by decide +kernel
theorem dX5_leakage_44 : decode cX5_leakage 44 = .ok (.if_icmp .le 8, 3) := by decide +kernel
theorem dX5_leakage_47 : decode cX5_leakage 47 = .ok (.iload 4, 2) := by decide +kernel
theorem dX5_leakage_49 : decode cX5_leakage 49 = .ok (.ifCond .ne 8, 3) := by decide +kernel
theorem dX5_leakage_52 : decode cX5_leakage 52 = .ok (.ldc 137, 2) := by decide +kernel
theorem dX5_leakage_54 : decode cX5_leakage 54 = .ok (.goto 27, 3) := by decide +kernel
theorem dX5_leakage_57 : decode cX5_leakage 57 = .ok (.aload_n 0, 1) := by decide +kernel
theorem dX5_leakage_58 : decode cX5_leakage 58 = .ok (.iload_n 1, 1) := by decide +kernel
theorem dX5_leakage_59 : decode cX5_leakage 59 = .ok (.invokestatic 49, 3) := by decide +kernel
theorem dX5_leakage_62 : decode cX5_leakage 62 = .ok (.iload_n 3, 1) := by decide +kernel
theorem dX5_leakage_63 : decode cX5_leakage 63 = .ok (.invokevirtual 116, 3) := by decide +kernel
theorem dX5_leakage_66 : decode cX5_leakage 66 = .ok (.iload 4, 2) := by decide +kernel
theorem dX5_leakage_68 : decode cX5_leakage 68 = .ok (.isub, 1) := by decide +kernel
theorem dX5_leakage_69 : decode cX5_leakage 69 = .ok (.i2l, 1) := by decide +kernel
theorem dX5_leakage_70 : decode cX5_leakage 70 = .ok (.ldc2_w 63, 3) := by decide +kernel
theorem dX5_leakage_73 : decode cX5_leakage 73 = .ok (.lmul, 1) := by decide +kernel
theorem dX5_leakage_74 : decode cX5_leakage 74 = .ok (.iload 4, 2) := by decide +kernel
theorem dX5_leakage_76 : decode cX5_leakage 76 = .ok (.i2l, 1) := by decide +kernel
theorem dX5_leakage_77 : decode cX5_leakage 77 = .ok (.invokestatic 42, 3) := by decide +kernel
theorem dX5_leakage_80 : decode cX5_leakage 80 = .ok (.l2i, 1) := by decide +kernel
theorem dX5_leakage_81 : decode cX5_leakage 81 = .ok (.ireturn, 1) := by decide +kernel
theorem dX5_many_0 : decode cX5_many 0 = .ok (.iconst 0, 1) := by decide +kernel
theorem dX5_many_1 : decode cX5_many 1 = .ok (.istore_n 2, 1) := by decide +kernel
theorem dX5_many_2 : decode cX5_many 2 = .ok (.iconst 0, 1) := by decide +kernel
theorem dX5_many_3 : decode cX5_many 3 = .ok (.istore_n 3, 1) := by decide +kernel
theorem dX5_many_4 : decode cX5_many 4 = .ok (.iload_n 3, 1) := by decide +kernel
theorem dX5_many_5 : decode cX5_many 5 = .ok (.aload_n 0, 1) := by decide +kernel
theorem dX5_many_6 : decode cX5_many 6 = .ok (.getfield 7, 3) := by decide +kernel
theorem dX5_many_9 : decode cX5_many 9 = .ok (.bipush 61, 2) := by decide +kernel
theorem dX5_many_11 : decode cX5_many 11 = .ok (.iaload, 1) := by decide +kernel
theorem dX5_many_12 : decode cX5_many 12 = .ok (.if_icmp .ge 30, 3) := by decide +kernel
theorem dX5_many_15 : decode cX5_many 15 = .ok (.iload_n 2, 1) := by decide +kernel
theorem dX5_many_16 : decode cX5_many 16 = .ok (.aload_n 0, 1) := by decide +kernel
theorem dX5_many_17 : decode cX5_many 17 = .ok (.getfield 7, 3) := by decide +kernel
theorem dX5_many_20 : decode cX5_many 20 = .ok (.iload_n 3, 1) := by decide +kernel
theorem dX5_many_21 : decode cX5_many 21 = .ok (.invokestatic 46, 3) := by decide +kernel
theorem dX5_many_24 : decode cX5_many 24 = .ok (.iaload, 1) := by decide +kernel
theorem dX5_many_25 : decode cX5_many 25 = .ok (.iload_n 1, 1) := by decide +kernel
theorem dX5_many_26 : decode cX5_many 26 = .ok (.if_icmp .ne 7, 3) := by decide +kernel
theorem dX5_many_29 : decode cX5_many 29 = .ok (.iconst 1, 1) := by decide +kernel
theorem dX5_many_30 : decode cX5_many 30 = .ok (.goto 4, 3) := by decide +kernel
theorem dX5_many_33 : decode cX5_many 33 = .ok (.iconst 0, 1) := by decide +kernel
theorem dX5_many_34 : decode cX5_many 34 = .ok (.iadd, 1) := by decide +kernel
theorem dX5_many_35 : decode cX5_many 35 = .ok (.istore_n 2, 1) := by decide +kernel
theorem dX5_many_36 : decode cX5_many 36 = .ok (.iinc 3 1, 3) := by decide +kernel
theorem dX5_many_39 : decode cX5_many 39 = .ok (.goto (-35), 3) := by decide +kernel
theorem dX5_many_42 : decode cX5_many 42 = .ok (.iload_n 2, 1) := by decide +kernel
theorem dX5_many_43 : decode cX5_many 43 = .ok (.ireturn, 1) := by decide +kernel
theorem dX5_cardsOf_0 : decode cX5_cardsOf 0 = .ok (.iload_n 1, 1) := by decide +kernel
theorem dX5_cardsOf_1 : decode cX5_cardsOf 1 = .ok (.invokestatic 34, 3) := by decide +kernel
theorem dX5_cardsOf_4 : decode cX5_cardsOf 4 = .ok (.ifCond .eq 11, 3) := by decide +kernel
theorem dX5_cardsOf_7 : decode cX5_cardsOf 7 = .ok (.aload_n 0, 1) := by decide +kernel
theorem dX5_cardsOf_8 : decode cX5_cardsOf 8 = .ok (.iload_n 1, 1) := by decide +kernel
theorem dX5_cardsOf_9 : decode cX5_cardsOf 9 = .ok (.invokevirtual 138, 3) := by decide +kernel
theorem dX5_cardsOf_12 : decode cX5_cardsOf 12 = .ok (.goto 5, 3) := by decide +kernel
theorem dX5_cardsOf_15 : decode cX5_cardsOf 15 = .ok (.ldc 26, 2) := by decide +kernel
theorem dX5_cardsOf_17 : decode cX5_cardsOf 17 = .ok (.ireturn, 1) := by decide +kernel
theorem dX5_meanArea_0 : decode cX5_meanArea 0 = .ok (.iload_n 1, 1) := by decide +kernel
theorem dX5_meanArea_1 : decode cX5_meanArea 1 = .ok (.invokestatic 34, 3) := by decide +kernel
theorem dX5_meanArea_4 : decode cX5_meanArea 4 = .ok (.ifCond .ne 6, 3) := by decide +kernel
theorem dX5_meanArea_7 : decode cX5_meanArea 7 = .ok (.ldc 26, 2) := by decide +kernel
theorem dX5_meanArea_9 : decode cX5_meanArea 9 = .ok (.ireturn, 1) := by decide +kernel
theorem dX5_meanArea_10 : decode cX5_meanArea 10 = .ok (.aload_n 0, 1) := by decide +kernel
theorem dX5_meanArea_11 : decode cX5_meanArea 11 = .ok (.iload_n 1, 1) := by decide +kernel
theorem dX5_meanArea_12 : decode cX5_meanArea 12 = .ok (.invokevirtual 138, 3) := by decide +kernel
theorem dX5_meanArea_15 : decode cX5_meanArea 15 = .ok (.istore_n 2, 1) := by decide +kernel
theorem dX5_meanArea_16 : decode cX5_meanArea 16 = .ok (.iload_n 2, 1) := by decide +kernel
theorem dX5_meanArea_17 : decode cX5_meanArea 17 = .ok (.ifCond .ne 6, 3) := by decide +kernel
theorem dX5_meanArea_20 : decode cX5_meanArea 20 = .ok (.ldc 137, 2) := by decide +kernel
theorem dX5_meanArea_22 : decode cX5_meanArea 22 = .ok (.ireturn, 1) := by decide +kernel
theorem dX5_meanArea_23 : decode cX5_meanArea 23 = .ok (.iconst 0, 1) := by decide +kernel
theorem dX5_meanArea_24 : decode cX5_meanArea 24 = .ok (.istore_n 3, 1) := by decide +kernel
theorem dX5_meanArea_25 : decode cX5_meanArea 25 = .ok (.iload_n 3, 1) := by decide +kernel
theorem dX5_meanArea_26 : decode cX5_meanArea 26 = .ok (.bipush 42, 2) := by decide +kernel
theorem dX5_meanArea_28 : decode cX5_meanArea 28 = .ok (.if_icmp .ge 82, 3) := by decide +kernel
theorem dX5_meanArea_31 : decode cX5_meanArea 31 = .ok (.iconst 0, 1) := by decide +kernel
theorem dX5_meanArea_32 : decode cX5_meanArea 32 = .ok (.istore 4, 2) := by decide +kernel
theorem dX5_meanArea_34 : decode cX5_meanArea 34 = .ok (.iconst 0, 1) := by decide +kernel
theorem dX5_meanArea_35 : decode cX5_meanArea 35 = .ok (.istore 5, 2) := by decide +kernel
theorem dX5_meanArea_37 : decode cX5_meanArea 37 = .ok (.iload 5, 2) := by decide +kernel
theorem dX5_meanArea_39 : decode cX5_meanArea 39 = .ok (.aload_n 0, 1) := by decide +kernel
theorem dX5_meanArea_40 : decode cX5_meanArea 40 = .ok (.getfield 7, 3) := by decide +kernel
theorem dX5_meanArea_43 : decode cX5_meanArea 43 = .ok (.bipush 61, 2) := by decide +kernel
theorem dX5_meanArea_45 : decode cX5_meanArea 45 = .ok (.iaload, 1) := by decide +kernel
theorem dX5_meanArea_46 : decode cX5_meanArea 46 = .ok (.if_icmp .ge 44, 3) := by decide +kernel
theorem dX5_meanArea_49 : decode cX5_meanArea 49 = .ok (.iload 4, 2) := by decide +kernel
theorem dX5_meanArea_51 : decode cX5_meanArea 51 = .ok (.aload_n 0, 1) := by decide +kernel
theorem dX5_meanArea_52 : decode cX5_meanArea 52 = .ok (.getfield 7, 3) := by decide +kernel
theorem dX5_meanArea_55 : decode cX5_meanArea 55 = .ok (.iload 5, 2) := by decide +kernel
theorem dX5_meanArea_57 : decode cX5_meanArea 57 = .ok (.invokestatic 46, 3) := by decide +kernel
theorem dX5_meanArea_60 : decode cX5_meanArea 60 = .ok (.iaload, 1) := by decide +kernel
theorem dX5_meanArea_61 : decode cX5_meanArea 61 = .ok (.iload_n 1, 1) := by decide +kernel
theorem dX5_meanArea_62 : decode cX5_meanArea 62 = .ok (.if_icmp .ne 18, 3) := by decide +kernel
theorem dX5_meanArea_65 : decode cX5_meanArea 65 = .ok (.aload_n 0, 1) := by decide +kernel
theorem dX5_meanArea_66 : decode cX5_meanArea 66 = .ok (.getfield 7, 3) := by decide +kernel
theorem dX5_meanArea_69 : decode cX5_meanArea 69 = .ok (.iload 5, 2) := by decide +kernel
theorem dX5_meanArea_71 : decode cX5_meanArea 71 = .ok (.invokestatic 49, 3) := by decide +kernel
theorem dX5_meanArea_74 : decode cX5_meanArea 74 = .ok (.iload_n 3, 1) := by decide +kernel
theorem dX5_meanArea_75 : decode cX5_meanArea 75 = .ok (.iadd, 1) := by decide +kernel
theorem dX5_meanArea_76 : decode cX5_meanArea 76 = .ok (.iaload, 1) := by decide +kernel
theorem dX5_meanArea_77 : decode cX5_meanArea 77 = .ok (.goto 4, 3) := by decide +kernel
theorem dX5_meanArea_80 : decode cX5_meanArea 80 = .ok (.iconst 0, 1) := by decide +kernel
theorem dX5_meanArea_81 : decode cX5_meanArea 81 = .ok (.iadd, 1) := by decide +kernel
theorem dX5_meanArea_82 : decode cX5_meanArea 82 = .ok (.istore 4, 2) := by decide +kernel
theorem dX5_meanArea_84 : decode cX5_meanArea 84 = .ok (.iinc 5 1, 3) := by decide +kernel
theorem dX5_meanArea_87 : decode cX5_meanArea 87 = .ok (.goto (-50), 3) := by decide +kernel
theorem dX5_meanArea_90 : decode cX5_meanArea 90 = .ok (.aload_n 0, 1) := by decide +kernel
theorem dX5_meanArea_91 : decode cX5_meanArea 91 = .ok (.getfield 7, 3) := by decide +kernel
theorem dX5_meanArea_94 : decode cX5_meanArea 94 = .ok (.sipush 2510, 3) := by decide +kernel
theorem dX5_meanArea_97 : decode cX5_meanArea 97 = .ok (.iload_n 3, 1) := by decide +kernel
theorem dX5_meanArea_98 : decode cX5_meanArea 98 = .ok (.iadd, 1) := by decide +kernel
theorem dX5_meanArea_99 : decode cX5_meanArea 99 = .ok (.iload 4, 2) := by decide +kernel
theorem dX5_meanArea_101 : decode cX5_meanArea 101 = .ok (.iload_n 2, 1) := by decide +kernel
theorem dX5_meanArea_102 : decode cX5_meanArea 102 = .ok (.idiv, 1) := by decide +kernel
theorem dX5_meanArea_103 : decode cX5_meanArea 103 = .ok (.iastore, 1) := by decide +kernel
theorem dX5_meanArea_104 : decode cX5_meanArea 104 = .ok (.iinc 3 1, 3) := by decide +kernel
theorem dX5_meanArea_107 : decode cX5_meanArea 107 = .ok (.goto (-82), 3) := by decide +kernel
theorem dX5_meanArea_110 : decode cX5_meanArea 110 = .ok (.aload_n 0, 1) := by decide +kernel
theorem dX5_meanArea_111 : decode cX5_meanArea 111 = .ok (.sipush 2510, 3) := by decide +kernel
theorem dX5_meanArea_114 : decode cX5_meanArea 114 = .ok (.invokevirtual 88, 3) := by decide +kernel
theorem dX5_meanArea_117 : decode cX5_meanArea 117 = .ok (.ireturn, 1) := by decide +kernel
theorem dX5_meanPowerOf_0 : decode cX5_meanPowerOf 0 = .ok (.lconst 0, 1) := by decide +kernel
theorem dX5_meanPowerOf_1 : decode cX5_meanPowerOf 1 = .ok (.lstore_n 2, 1) := by decide +kernel
theorem dX5_meanPowerOf_2 : decode cX5_meanPowerOf 2 = .ok (.iconst 0, 1) := by decide +kernel
theorem dX5_meanPowerOf_3 : decode cX5_meanPowerOf 3 = .ok (.istore 4, 2) := by decide +kernel
theorem dX5_meanPowerOf_5 : decode cX5_meanPowerOf 5 = .ok (.iload 4, 2) := by decide +kernel
theorem dX5_meanPowerOf_7 : decode cX5_meanPowerOf 7 = .ok (.aload_n 0, 1) := by decide +kernel
theorem dX5_meanPowerOf_8 : decode cX5_meanPowerOf 8 = .ok (.getfield 7, 3) := by decide +kernel
theorem dX5_meanPowerOf_11 : decode cX5_meanPowerOf 11 = .ok (.bipush 61, 2) := by decide +kernel
theorem dX5_meanPowerOf_13 : decode cX5_meanPowerOf 13 = .ok (.iaload, 1) := by decide +kernel
theorem dX5_meanPowerOf_14 : decode cX5_meanPowerOf 14 = .ok (.if_icmp .ge 36, 3) := by decide +kernel
theorem dX5_meanPowerOf_17 : decode cX5_meanPowerOf 17 = .ok (.lload_n 2, 1) := by decide +kernel
theorem dX5_meanPowerOf_18 : decode cX5_meanPowerOf 18 = .ok (.aload_n 0, 1) := by decide +kernel
theorem dX5_meanPowerOf_19 : decode cX5_meanPowerOf 19 = .ok (.getfield 7, 3) := by decide +kernel
theorem dX5_meanPowerOf_22 : decode cX5_meanPowerOf 22 = .ok (.iload 4, 2) := by decide +kernel
theorem dX5_meanPowerOf_24 : decode cX5_meanPowerOf 24 = .ok (.invokestatic 46, 3) := by decide +kernel
theorem dX5_meanPowerOf_27 : decode cX5_meanPowerOf 27 = .ok (.iaload, 1) := by decide +kernel
theorem dX5_meanPowerOf_28 : decode cX5_meanPowerOf 28 = .ok (.iload_n 1, 1) := by decide +kernel
theorem dX5_meanPowerOf_29 : decode cX5_meanPowerOf 29 = .ok (.if_icmp .ne 12, 3) := by decide +kernel
theorem dX5_meanPowerOf_32 : decode cX5_meanPowerOf 32 = .ok (.aload_n 0, 1) := by decide +kernel
theorem dX5_meanPowerOf_33 : decode cX5_meanPowerOf 33 = .ok (.iload 4, 2) := by decide +kernel
theorem dX5_meanPowerOf_35 : decode cX5_meanPowerOf 35 = .ok (.invokevirtual 101, 3) := by decide +kernel
theorem dX5_meanPowerOf_38 : decode cX5_meanPowerOf 38 = .ok (.goto 4, 3) := by decide +kernel
theorem dX5_meanPowerOf_41 : decode cX5_meanPowerOf 41 = .ok (.lconst 0, 1) := by decide +kernel
theorem dX5_meanPowerOf_42 : decode cX5_meanPowerOf 42 = .ok (.ladd, 1) := by decide +kernel
theorem dX5_meanPowerOf_43 : decode cX5_meanPowerOf 43 = .ok (.lstore_n 2, 1) := by decide +kernel
theorem dX5_meanPowerOf_44 : decode cX5_meanPowerOf 44 = .ok (.iinc 4 1, 3) := by decide +kernel
theorem dX5_meanPowerOf_47 : decode cX5_meanPowerOf 47 = .ok (.goto (-42), 3) := by decide +kernel
theorem dX5_meanPowerOf_50 : decode cX5_meanPowerOf 50 = .ok (.lload_n 2, 1) := by decide +kernel
theorem dX5_meanPowerOf_51 : decode cX5_meanPowerOf 51 = .ok (.aload_n 0, 1) := by decide +kernel
theorem dX5_meanPowerOf_52 : decode cX5_meanPowerOf 52 = .ok (.iload_n 1, 1) := by decide +kernel
theorem dX5_meanPowerOf_53 : decode cX5_meanPowerOf 53 = .ok (.invokevirtual 138, 3) := by decide +kernel
theorem dX5_meanPowerOf_56 : decode cX5_meanPowerOf 56 = .ok (.i2l, 1) := by decide +kernel
theorem dX5_meanPowerOf_57 : decode cX5_meanPowerOf 57 = .ok (.invokestatic 42, 3) := by decide +kernel
theorem dX5_meanPowerOf_60 : decode cX5_meanPowerOf 60 = .ok (.lreturn, 1) := by decide +kernel
theorem dX5_meanPower_0 : decode cX5_meanPower 0 = .ok (.iload_n 1, 1) := by decide +kernel
theorem dX5_meanPower_1 : decode cX5_meanPower 1 = .ok (.invokestatic 34, 3) := by decide +kernel
theorem dX5_meanPower_4 : decode cX5_meanPower 4 = .ok (.ifCond .ne 7, 3) := by decide +kernel
theorem dX5_meanPower_7 : decode cX5_meanPower 7 = .ok (.ldc2_w 105, 3) := by decide +kernel
theorem dX5_meanPower_10 : decode cX5_meanPower 10 = .ok (.lreturn, 1) := by decide +kernel
theorem dX5_meanPower_11 : decode cX5_meanPower 11 = .ok (.aload_n 0, 1) := by decide +kernel
theorem dX5_meanPower_12 : decode cX5_meanPower 12 = .ok (.iload_n 1, 1) := by decide +kernel
theorem dX5_meanPower_13 : decode cX5_meanPower 13 = .ok (.invokevirtual 138, 3) := by decide +kernel
theorem dX5_meanPower_16 : decode cX5_meanPower 16 = .ok (.ifCond .ne 9, 3) := by decide +kernel
theorem dX5_meanPower_19 : decode cX5_meanPower 19 = .ok (.ldc2_w 141, 3) := by decide +kernel
theorem dX5_meanPower_22 : decode cX5_meanPower 22 = .ok (.goto 8, 3) := by decide +kernel
theorem dX5_meanPower_25 : decode cX5_meanPower 25 = .ok (.aload_n 0, 1) := by decide +kernel
theorem dX5_meanPower_26 : decode cX5_meanPower 26 = .ok (.iload_n 1, 1) := by decide +kernel
theorem dX5_meanPower_27 : decode cX5_meanPower 27 = .ok (.invokevirtual 143, 3) := by decide +kernel
theorem dX5_meanPower_30 : decode cX5_meanPower 30 = .ok (.lreturn, 1) := by decide +kernel
theorem dX5_imbalance_0 : decode cX5_imbalance 0 = .ok (.aload_n 0, 1) := by decide +kernel
theorem dX5_imbalance_1 : decode cX5_imbalance 1 = .ok (.iconst 0, 1) := by decide +kernel
theorem dX5_imbalance_2 : decode cX5_imbalance 2 = .ok (.invokevirtual 138, 3) := by decide +kernel
theorem dX5_imbalance_5 : decode cX5_imbalance 5 = .ok (.ifCond .eq 11, 3) := by decide +kernel
theorem dX5_imbalance_8 : decode cX5_imbalance 8 = .ok (.aload_n 0, 1) := by decide +kernel
theorem dX5_imbalance_9 : decode cX5_imbalance 9 = .ok (.iconst 1, 1) := by decide +kernel
theorem dX5_imbalance_10 : decode cX5_imbalance 10 = .ok (.invokevirtual 138, 3) := by decide +kernel
theorem dX5_imbalance_13 : decode cX5_imbalance 13 = .ok (.ifCond .ne 6, 3) := by decide +kernel
theorem dX5_imbalance_16 : decode cX5_imbalance 16 = .ok (.ldc 137, 2) := by decide +kernel
theorem dX5_imbalance_18 : decode cX5_imbalance 18 = .ok (.ireturn, 1) := by decide +kernel
theorem dX5_imbalance_19 : decode cX5_imbalance 19 = .ok (.aload_n 0, 1) := by decide +kernel
theorem dX5_imbalance_20 : decode cX5_imbalance 20 = .ok (.iconst 0, 1) := by decide +kernel
theorem dX5_imbalance_21 : decode cX5_imbalance 21 = .ok (.invokevirtual 143, 3) := by decide +kernel
theorem dX5_imbalance_24 : decode cX5_imbalance 24 = .ok (.lstore_n 1, 1) := by decide +kernel
theorem dX5_imbalance_25 : decode cX5_imbalance 25 = .ok (.aload_n 0, 1) := by decide +kernel
theorem dX5_imbalance_26 : decode cX5_imbalance 26 = .ok (.iconst 1, 1) := by decide +kernel
theorem dX5_imbalance_27 : decode cX5_imbalance 27 = .ok (.invokevirtual 143, 3) := by decide +kernel
theorem dX5_imbalance_30 : decode cX5_imbalance 30 = .ok (.lstore_n 3, 1) := by decide +kernel
theorem dX5_imbalance_31 : decode cX5_imbalance 31 = .ok (.lload_n 1, 1) := by decide +kernel
theorem dX5_imbalance_32 : decode cX5_imbalance 32 = .ok (.lload_n 3, 1) := by decide +kernel
theorem dX5_imbalance_33 : decode cX5_imbalance 33 = .ok (.lcmp, 1) := by decide +kernel
theorem dX5_imbalance_34 : decode cX5_imbalance 34 = .ok (.ifCond .ge 9, 3) := by decide +kernel
theorem dX5_imbalance_37 : decode cX5_imbalance 37 = .ok (.lload_n 3, 1) := by decide +kernel
theorem dX5_imbalance_38 : decode cX5_imbalance 38 = .ok (.lload_n 1, 1) := by decide +kernel
theorem dX5_imbalance_39 : decode cX5_imbalance 39 = .ok (.lsub, 1) := by decide +kernel
theorem dX5_imbalance_40 : decode cX5_imbalance 40 = .ok (.goto 6, 3) := by decide +kernel
theorem dX5_imbalance_43 : decode cX5_imbalance 43 = .ok (.lload_n 1, 1) := by decide +kernel
theorem dX5_imbalance_44 : decode cX5_imbalance 44 = .ok (.lload_n 3, 1) := by decide +kernel
theorem dX5_imbalance_45 : decode cX5_imbalance 45 = .ok (.lsub, 1) := by decide +kernel
theorem dX5_imbalance_46 : decode cX5_imbalance 46 = .ok (.lstore 5, 2) := by decide +kernel
theorem dX5_imbalance_48 : decode cX5_imbalance 48 = .ok (.lload_n 1, 1) := by decide +kernel
theorem dX5_imbalance_49 : decode cX5_imbalance 49 = .ok (.lconst 0, 1) := by decide +kernel
theorem dX5_imbalance_50 : decode cX5_imbalance 50 = .ok (.lcmp, 1) := by decide +kernel
theorem dX5_imbalance_51 : decode cX5_imbalance 51 = .ok (.ifCond .lt 17, 3) := by decide +kernel
theorem dX5_imbalance_54 : decode cX5_imbalance 54 = .ok (.lload_n 3, 1) := by decide +kernel
theorem dX5_imbalance_55 : decode cX5_imbalance 55 = .ok (.lconst 0, 1) := by decide +kernel
theorem dX5_imbalance_56 : decode cX5_imbalance 56 = .ok (.lcmp, 1) := by decide +kernel
theorem dX5_imbalance_57 : decode cX5_imbalance 57 = .ok (.ifCond .lt 11, 3) := by decide +kernel
theorem dX5_imbalance_60 : decode cX5_imbalance 60 = .ok (.lload_n 1, 1) := by decide +kernel
theorem dX5_imbalance_61 : decode cX5_imbalance 61 = .ok (.lload_n 3, 1) := by decide +kernel
theorem dX5_imbalance_62 : decode cX5_imbalance 62 = .ok (.ladd, 1) := by decide +kernel
theorem dX5_imbalance_63 : decode cX5_imbalance 63 = .ok (.lconst 0, 1) := by decide +kernel
theorem dX5_imbalance_64 : decode cX5_imbalance 64 = .ok (.lcmp, 1) := by decide +kernel
theorem dX5_imbalance_65 : decode cX5_imbalance 65 = .ok (.ifCond .ne 8, 3) := by decide +kernel
theorem dX5_imbalance_68 : decode cX5_imbalance 68 = .ok (.ldc 137, 2) := by decide +kernel
theorem dX5_imbalance_70 : decode cX5_imbalance 70 = .ok (.goto 14, 3) := by decide +kernel
theorem dX5_imbalance_73 : decode cX5_imbalance 73 = .ok (.lload 5, 2) := by decide +kernel
theorem dX5_imbalance_75 : decode cX5_imbalance 75 = .ok (.ldc2_w 63, 3) := by decide +kernel
theorem dX5_imbalance_78 : decode cX5_imbalance 78 = .ok (.lmul, 1) := by decide +kernel
theorem dX5_imbalance_79 : decode cX5_imbalance 79 = .ok (.lload_n 1, 1) := by decide +kernel
theorem dX5_imbalance_80 : decode cX5_imbalance 80 = .ok (.lload_n 3, 1) := by decide +kernel
theorem dX5_imbalance_81 : decode cX5_imbalance 81 = .ok (.ladd, 1) := by decide +kernel
theorem dX5_imbalance_82 : decode cX5_imbalance 82 = .ok (.ldiv, 1) := by decide +kernel
theorem dX5_imbalance_83 : decode cX5_imbalance 83 = .ok (.l2i, 1) := by decide +kernel
theorem dX5_imbalance_84 : decode cX5_imbalance 84 = .ok (.ireturn, 1) := by decide +kernel
theorem dX5_median_0 : decode cX5_median 0 = .ok (.aload_n 0, 1) := by decide +kernel
theorem dX5_median_1 : decode cX5_median 1 = .ok (.iload_n 1, 1) := by decide +kernel
theorem dX5_median_2 : decode cX5_median 2 = .ok (.invokevirtual 138, 3) := by decide +kernel
theorem dX5_median_5 : decode cX5_median 5 = .ok (.iconst 1, 1) := by decide +kernel
theorem dX5_median_6 : decode cX5_median 6 = .ok (.isub, 1) := by decide +kernel
theorem dX5_median_7 : decode cX5_median 7 = .ok (.iconst 2, 1) := by decide +kernel
theorem dX5_median_8 : decode cX5_median 8 = .ok (.idiv, 1) := by decide +kernel
theorem dX5_median_9 : decode cX5_median 9 = .ok (.istore_n 2, 1) := by decide +kernel
theorem dX5_median_10 : decode cX5_median 10 = .ok (.iconst 0, 1) := by decide +kernel
theorem dX5_median_11 : decode cX5_median 11 = .ok (.istore_n 3, 1) := by decide +kernel
theorem dX5_median_12 : decode cX5_median 12 = .ok (.iconst 0, 1) := by decide +kernel
theorem dX5_median_13 : decode cX5_median 13 = .ok (.istore 4, 2) := by decide +kernel
theorem dX5_median_15 : decode cX5_median 15 = .ok (.iload 4, 2) := by decide +kernel
theorem dX5_median_17 : decode cX5_median 17 = .ok (.aload_n 0, 1) := by decide +kernel
theorem dX5_median_18 : decode cX5_median 18 = .ok (.getfield 7, 3) := by decide +kernel
theorem dX5_median_21 : decode cX5_median 21 = .ok (.bipush 61, 2) := by decide +kernel
theorem dX5_median_23 : decode cX5_median 23 = .ok (.iaload, 1) := by decide +kernel
theorem dX5_median_24 : decode cX5_median 24 = .ok (.if_icmp .ge 173, 3) := by decide +kernel
theorem dX5_median_27 : decode cX5_median 27 = .ok (.iconst 0, 1) := by decide +kernel
theorem dX5_median_28 : decode cX5_median 28 = .ok (.istore 5, 2) := by decide +kernel
theorem dX5_median_30 : decode cX5_median 30 = .ok (.iconst 0, 1) := by decide +kernel
theorem dX5_median_31 : decode cX5_median 31 = .ok (.istore 6, 2) := by decide +kernel
theorem dX5_median_33 : decode cX5_median 33 = .ok (.iconst 0, 1) := by decide +kernel
theorem dX5_median_34 : decode cX5_median 34 = .ok (.istore 7, 2) := by decide +kernel
theorem dX5_median_36 : decode cX5_median 36 = .ok (.iload 7, 2) := by decide +kernel
theorem dX5_median_38 : decode cX5_median 38 = .ok (.aload_n 0, 1) := by decide +kernel
theorem dX5_median_39 : decode cX5_median 39 = .ok (.getfield 7, 3) := by decide +kernel
theorem dX5_median_42 : decode cX5_median 42 = .ok (.bipush 61, 2) := by decide +kernel
theorem dX5_median_44 : decode cX5_median 44 = .ok (.iaload, 1) := by decide +kernel
theorem dX5_median_45 : decode cX5_median 45 = .ok (.if_icmp .ge 102, 3) := by decide +kernel
theorem dX5_median_48 : decode cX5_median 48 = .ok (.aload_n 0, 1) := by decide +kernel
theorem dX5_median_49 : decode cX5_median 49 = .ok (.getfield 7, 3) := by decide +kernel
theorem dX5_median_52 : decode cX5_median 52 = .ok (.iload 7, 2) := by decide +kernel
theorem dX5_median_54 : decode cX5_median 54 = .ok (.invokestatic 46, 3) := by decide +kernel
theorem dX5_median_57 : decode cX5_median 57 = .ok (.iaload, 1) := by decide +kernel
theorem dX5_median_58 : decode cX5_median 58 = .ok (.iload_n 1, 1) := by decide +kernel
theorem dX5_median_59 : decode cX5_median 59 = .ok (.if_icmp .ne 7, 3) := by decide +kernel
theorem dX5_median_62 : decode cX5_median 62 = .ok (.iconst 1, 1) := by decide +kernel
theorem dX5_median_63 : decode cX5_median 63 = .ok (.goto 4, 3) := by decide +kernel
theorem dX5_median_66 : decode cX5_median 66 = .ok (.iconst 0, 1) := by decide +kernel
theorem dX5_median_67 : decode cX5_median 67 = .ok (.istore 8, 2) := by decide +kernel
theorem dX5_median_69 : decode cX5_median 69 = .ok (.iload 5, 2) := by decide +kernel
theorem dX5_median_71 : decode cX5_median 71 = .ok (.iload 8, 2) := by decide +kernel
theorem dX5_median_73 : decode cX5_median 73 = .ok (.ifCond .eq 28, 3) := by decide +kernel
theorem dX5_median_76 : decode cX5_median 76 = .ok (.aload_n 0, 1) := by decide +kernel
theorem dX5_median_77 : decode cX5_median 77 = .ok (.iload 7, 2) := by decide +kernel
theorem dX5_median_79 : decode cX5_median 79 = .ok (.invokestatic 49, 3) := by decide +kernel
theorem dX5_median_82 : decode cX5_median 82 = .ok (.invokevirtual 88, 3) := by decide +kernel
theorem dX5_median_85 : decode cX5_median 85 = .ok (.aload_n 0, 1) := by decide +kernel
theorem dX5_median_86 : decode cX5_median 86 = .ok (.iload 4, 2) := by decide +kernel
theorem dX5_median_88 : decode cX5_median 88 = .ok (.invokestatic 49, 3) := by decide +kernel
theorem dX5_median_91 : decode cX5_median 91 = .ok (.invokevirtual 88, 3) := by decide +kernel
theorem dX5_median_94 : decode cX5_median 94 = .ok (.if_icmp .ge 7, 3) := by decide +kernel
theorem dX5_median_97 : decode cX5_median 97 = .ok (.iconst 1, 1) := by decide +kernel
theorem dX5_median_98 : decode cX5_median 98 = .ok (.goto 4, 3) := by decide +kernel
theorem dX5_median_101 : decode cX5_median 101 = .ok (.iconst 0, 1) := by decide +kernel
theorem dX5_median_102 : decode cX5_median 102 = .ok (.iadd, 1) := by decide +kernel
theorem dX5_median_103 : decode cX5_median 103 = .ok (.istore 5, 2) := by decide +kernel
theorem dX5_median_105 : decode cX5_median 105 = .ok (.iload 6, 2) := by decide +kernel
theorem dX5_median_107 : decode cX5_median 107 = .ok (.iload 8, 2) := by decide +kernel
theorem dX5_median_109 : decode cX5_median 109 = .ok (.ifCond .eq 28, 3) := by decide +kernel
theorem dX5_median_112 : decode cX5_median 112 = .ok (.aload_n 0, 1) := by decide +kernel
theorem dX5_median_113 : decode cX5_median 113 = .ok (.iload 7, 2) := by decide +kernel
theorem dX5_median_115 : decode cX5_median 115 = .ok (.invokestatic 49, 3) := by decide +kernel
theorem dX5_median_118 : decode cX5_median 118 = .ok (.invokevirtual 88, 3) := by decide +kernel
theorem dX5_median_121 : decode cX5_median 121 = .ok (.aload_n 0, 1) := by decide +kernel
theorem dX5_median_122 : decode cX5_median 122 = .ok (.iload 4, 2) := by decide +kernel
theorem dX5_median_124 : decode cX5_median 124 = .ok (.invokestatic 49, 3) := by decide +kernel
theorem dX5_median_127 : decode cX5_median 127 = .ok (.invokevirtual 88, 3) := by decide +kernel
theorem dX5_median_130 : decode cX5_median 130 = .ok (.if_icmp .ne 7, 3) := by decide +kernel
theorem dX5_median_133 : decode cX5_median 133 = .ok (.iconst 1, 1) := by decide +kernel
theorem dX5_median_134 : decode cX5_median 134 = .ok (.goto 4, 3) := by decide +kernel
theorem dX5_median_137 : decode cX5_median 137 = .ok (.iconst 0, 1) := by decide +kernel
theorem dX5_median_138 : decode cX5_median 138 = .ok (.iadd, 1) := by decide +kernel
theorem dX5_median_139 : decode cX5_median 139 = .ok (.istore 6, 2) := by decide +kernel
theorem dX5_median_141 : decode cX5_median 141 = .ok (.iinc 7 1, 3) := by decide +kernel
theorem dX5_median_144 : decode cX5_median 144 = .ok (.goto (-108), 3) := by decide +kernel
theorem dX5_median_147 : decode cX5_median 147 = .ok (.aload_n 0, 1) := by decide +kernel
theorem dX5_median_148 : decode cX5_median 148 = .ok (.getfield 7, 3) := by decide +kernel
theorem dX5_median_151 : decode cX5_median 151 = .ok (.iload 4, 2) := by decide +kernel
theorem dX5_median_153 : decode cX5_median 153 = .ok (.invokestatic 46, 3) := by decide +kernel
theorem dX5_median_156 : decode cX5_median 156 = .ok (.iaload, 1) := by decide +kernel
theorem dX5_median_157 : decode cX5_median 157 = .ok (.iload_n 1, 1) := by decide +kernel
theorem dX5_median_158 : decode cX5_median 158 = .ok (.if_icmp .ne 31, 3) := by decide +kernel
theorem dX5_median_161 : decode cX5_median 161 = .ok (.iload_n 2, 1) := by decide +kernel
theorem dX5_median_162 : decode cX5_median 162 = .ok (.iload 5, 2) := by decide +kernel
theorem dX5_median_164 : decode cX5_median 164 = .ok (.iload 5, 2) := by decide +kernel
theorem dX5_median_166 : decode cX5_median 166 = .ok (.iload 6, 2) := by decide +kernel
theorem dX5_median_168 : decode cX5_median 168 = .ok (.iadd, 1) := by decide +kernel
theorem dX5_median_169 : decode cX5_median 169 = .ok (.iconst 1, 1) := by decide +kernel
theorem dX5_median_170 : decode cX5_median 170 = .ok (.isub, 1) := by decide +kernel
theorem dX5_median_171 : decode cX5_median 171 = .ok (.invokestatic 13, 3) := by decide +kernel
theorem dX5_median_174 : decode cX5_median 174 = .ok (.ifCond .eq 15, 3) := by decide +kernel
theorem dX5_median_177 : decode cX5_median 177 = .ok (.aload_n 0, 1) := by decide +kernel
theorem dX5_median_178 : decode cX5_median 178 = .ok (.iload 4, 2) := by decide +kernel
theorem dX5_median_180 : decode cX5_median 180 = .ok (.invokestatic 49, 3) := by decide +kernel
theorem dX5_median_183 : decode cX5_median 183 = .ok (.invokevirtual 88, 3) := by decide +kernel
theorem dX5_median_186 : decode cX5_median 186 = .ok (.goto 4, 3) := by decide +kernel
theorem dX5_median_189 : decode cX5_median 189 = .ok (.iload_n 3, 1) := by decide +kernel
theorem dX5_median_190 : decode cX5_median 190 = .ok (.istore_n 3, 1) := by decide +kernel
theorem dX5_median_191 : decode cX5_median 191 = .ok (.iinc 4 1, 3) := by decide +kernel
theorem dX5_median_194 : decode cX5_median 194 = .ok (.goto (-179), 3) := by decide +kernel
theorem dX5_median_197 : decode cX5_median 197 = .ok (.iload_n 3, 1) := by decide +kernel
theorem dX5_median_198 : decode cX5_median 198 = .ok (.ireturn, 1) := by decide +kernel
theorem dX5_removeOutliers_0 : decode cX5_removeOutliers 0 = .ok (.iload_n 1, 1) := by decide +kernel
theorem dX5_removeOutliers_1 : decode cX5_removeOutliers 1 = .ok (.invokestatic 34, 3) := by decide +kernel
theorem dX5_removeOutliers_4 : decode cX5_removeOutliers 4 = .ok (.ifCond .eq 13, 3) := by decide +kernel
theorem dX5_removeOutliers_7 : decode cX5_removeOutliers 7 = .ok (.iload_n 2, 1) := by decide +kernel
theorem dX5_removeOutliers_8 : decode cX5_removeOutliers 8 = .ok (.iconst 0, 1) := by decide +kernel
theorem dX5_removeOutliers_9 : decode cX5_removeOutliers 9 = .ok (.bipush 100, 2) := by decide +kernel
theorem dX5_removeOutliers_11 : decode cX5_removeOutliers 11 = .ok (.invokestatic 13, 3) := by decide +kernel
theorem dX5_removeOutliers_14 : decode cX5_removeOutliers 14 = .ok (.ifCond .ne 6, 3) := by decide +kernel
theorem dX5_removeOutliers_17 : decode cX5_removeOutliers 17 = .ok (.ldc 26, 2) := by decide +kernel
theorem dX5_removeOutliers_19 : decode cX5_removeOutliers 19 = .ok (.ireturn, 1) := by decide +kernel
theorem dX5_removeOutliers_20 : decode cX5_removeOutliers 20 = .ok (.aload_n 0, 1) := by decide +kernel
theorem dX5_removeOutliers_21 : decode cX5_removeOutliers 21 = .ok (.iload_n 1, 1) := by decide +kernel
theorem dX5_removeOutliers_22 : decode cX5_removeOutliers 22 = .ok (.invokevirtual 138, 3) := by decide +kernel
theorem dX5_removeOutliers_25 : decode cX5_removeOutliers 25 = .ok (.ifCond .ne 6, 3) := by decide +kernel
theorem dX5_removeOutliers_28 : decode cX5_removeOutliers 28 = .ok (.ldc 25, 2) := by decide +kernel
theorem dX5_removeOutliers_30 : decode cX5_removeOutliers 30 = .ok (.ireturn, 1) := by decide +kernel
theorem dX5_removeOutliers_31 : decode cX5_removeOutliers 31 = .ok (.aload_n 0, 1) := by decide +kernel
theorem dX5_removeOutliers_32 : decode cX5_removeOutliers 32 = .ok (.invokevirtual 27, 3) := by decide +kernel
theorem dX5_removeOutliers_35 : decode cX5_removeOutliers 35 = .ok (.aload_n 0, 1) := by decide +kernel
theorem dX5_removeOutliers_36 : decode cX5_removeOutliers 36 = .ok (.iload_n 1, 1) := by decide +kernel
theorem dX5_removeOutliers_37 : decode cX5_removeOutliers 37 = .ok (.invokevirtual 146, 3) := by decide +kernel
theorem dX5_removeOutliers_40 : decode cX5_removeOutliers 40 = .ok (.istore_n 3, 1) := by decide +kernel
theorem dX5_removeOutliers_41 : decode cX5_removeOutliers 41 = .ok (.iconst 0, 1) := by decide +kernel
theorem dX5_removeOutliers_42 : decode cX5_removeOutliers 42 = .ok (.istore 4, 2) := by decide +kernel
theorem dX5_removeOutliers_44 : decode cX5_removeOutliers 44 = .ok (.aload_n 0, 1) := by decide +kernel
theorem dX5_removeOutliers_45 : decode cX5_removeOutliers 45 = .ok (.getfield 7, 3) := by decide +kernel
theorem dX5_removeOutliers_48 : decode cX5_removeOutliers 48 = .ok (.bipush 61, 2) := by decide +kernel
theorem dX5_removeOutliers_50 : decode cX5_removeOutliers 50 = .ok (.iaload, 1) := by decide +kernel
theorem dX5_removeOutliers_51 : decode cX5_removeOutliers 51 = .ok (.iconst 1, 1) := by decide +kernel
theorem dX5_removeOutliers_52 : decode cX5_removeOutliers 52 = .ok (.isub, 1) := by decide +kernel
theorem dX5_removeOutliers_53 : decode cX5_removeOutliers 53 = .ok (.istore 5, 2) := by decide +kernel
theorem dX5_removeOutliers_55 : decode cX5_removeOutliers 55 = .ok (.iload 5, 2) := by decide +kernel
theorem dX5_removeOutliers_57 : decode cX5_removeOutliers 57 = .ok (.ifCond .lt 62, 3) := by decide +kernel
theorem dX5_removeOutliers_60 : decode cX5_removeOutliers 60 = .ok (.aload_n 0, 1) := by decide +kernel
theorem dX5_removeOutliers_61 : decode cX5_removeOutliers 61 = .ok (.iload 5, 2) := by decide +kernel
theorem dX5_removeOutliers_63 : decode cX5_removeOutliers 63 = .ok (.invokestatic 49, 3) := by decide +kernel
theorem dX5_removeOutliers_66 : decode cX5_removeOutliers 66 = .ok (.invokevirtual 88, 3) := by decide +kernel
theorem dX5_removeOutliers_69 : decode cX5_removeOutliers 69 = .ok (.iload_n 3, 1) := by decide +kernel
theorem dX5_removeOutliers_70 : decode cX5_removeOutliers 70 = .ok (.isub, 1) := by decide +kernel
theorem dX5_removeOutliers_71 : decode cX5_removeOutliers 71 = .ok (.invokestatic 131, 3) := by decide +kernel
theorem dX5_removeOutliers_74 : decode cX5_removeOutliers 74 = .ok (.istore 6, 2) := by decide +kernel
theorem dX5_removeOutliers_76 : decode cX5_removeOutliers 76 = .ok (.aload_n 0, 1) := by decide +kernel
theorem dX5_removeOutliers_77 : decode cX5_removeOutliers 77 = .ok (.getfield 7, 3) := by decide +kernel
theorem dX5_removeOutliers_80 : decode cX5_removeOutliers 80 = .ok (.iload 5, 2) := by decide +kernel
theorem dX5_removeOutliers_82 : decode cX5_removeOutliers 82 = .ok (.invokestatic 46, 3) := by decide +kernel
theorem dX5_removeOutliers_85 : decode cX5_removeOutliers 85 = .ok (.iaload, 1) := by decide +kernel
theorem dX5_removeOutliers_86 : decode cX5_removeOutliers 86 = .ok (.iload_n 1, 1) := by decide +kernel
theorem dX5_removeOutliers_87 : decode cX5_removeOutliers 87 = .ok (.if_icmp .ne 26, 3) := by decide +kernel
theorem dX5_removeOutliers_90 : decode cX5_removeOutliers 90 = .ok (.iload 6, 2) := by decide +kernel
theorem dX5_removeOutliers_92 : decode cX5_removeOutliers 92 = .ok (.bipush 100, 2) := by decide +kernel
theorem dX5_removeOutliers_94 : decode cX5_removeOutliers 94 = .ok (.imul, 1) := by decide +kernel
theorem dX5_removeOutliers_95 : decode cX5_removeOutliers 95 = .ok (.iload_n 2, 1) := by decide +kernel
theorem dX5_removeOutliers_96 : decode cX5_removeOutliers 96 = .ok (.iload_n 3, 1) := by decide +kernel
theorem dX5_removeOutliers_97 : decode cX5_removeOutliers 97 = .ok (.invokestatic 131, 3) := by decide +kernel
theorem dX5_removeOutliers_100 : decode cX5_removeOutliers 100 = .ok (.imul, 1) := by decide +kernel
theorem dX5_removeOutliers_101 : decode cX5_removeOutliers 101 = .ok (.if_icmp .le 12, 3) := by decide +kernel
theorem dX5_removeOutliers_104 : decode cX5_removeOutliers 104 = .ok (.aload_n 0, 1) := by decide +kernel
theorem dX5_removeOutliers_105 : decode cX5_removeOutliers 105 = .ok (.iload 5, 2) := by decide +kernel
theorem dX5_removeOutliers_107 : decode cX5_removeOutliers 107 = .ok (.invokevirtual 75, 3) := by decide +kernel
theorem dX5_removeOutliers_110 : decode cX5_removeOutliers 110 = .ok (.iinc 4 1, 3) := by decide +kernel
theorem dX5_removeOutliers_113 : decode cX5_removeOutliers 113 = .ok (.iinc 5 (-1), 3) := by decide +kernel
theorem dX5_removeOutliers_116 : decode cX5_removeOutliers 116 = .ok (.goto (-61), 3) := by decide +kernel
theorem dX5_removeOutliers_119 : decode cX5_removeOutliers 119 = .ok (.iload 4, 2) := by decide +kernel
theorem dX5_removeOutliers_121 : decode cX5_removeOutliers 121 = .ok (.ireturn, 1) := by decide +kernel
theorem dX5_idealBy_0 : decode cX5_idealBy 0 = .ok (.aload_n 0, 1) := by decide +kernel
theorem dX5_idealBy_1 : decode cX5_idealBy 1 = .ok (.aload_n 0, 1) := by decide +kernel
theorem dX5_idealBy_2 : decode cX5_idealBy 2 = .ok (.iload_n 1, 1) := by decide +kernel
theorem dX5_idealBy_3 : decode cX5_idealBy 3 = .ok (.iconst 0, 1) := by decide +kernel
theorem dX5_idealBy_4 : decode cX5_idealBy 4 = .ok (.invokevirtual 65, 3) := by decide +kernel
theorem dX5_idealBy_7 : decode cX5_idealBy 7 = .ok (.iload_n 2, 1) := by decide +kernel
theorem dX5_idealBy_8 : decode cX5_idealBy 8 = .ok (.aload_n 0, 1) := by decide +kernel
theorem dX5_idealBy_9 : decode cX5_idealBy 9 = .ok (.iload_n 1, 1) := by decide +kernel
theorem dX5_idealBy_10 : decode cX5_idealBy 10 = .ok (.iconst 2, 1) := by decide +kernel
theorem dX5_idealBy_11 : decode cX5_idealBy 11 = .ok (.invokevirtual 65, 3) := by decide +kernel
theorem dX5_idealBy_14 : decode cX5_idealBy 14 = .ok (.aload_n 0, 1) := by decide +kernel
theorem dX5_idealBy_15 : decode cX5_idealBy 15 = .ok (.iload_n 1, 1) := by decide +kernel
theorem dX5_idealBy_16 : decode cX5_idealBy 16 = .ok (.iconst 3, 1) := by decide +kernel
theorem dX5_idealBy_17 : decode cX5_idealBy 17 = .ok (.invokevirtual 65, 3) := by decide +kernel
theorem dX5_idealBy_20 : decode cX5_idealBy 20 = .ok (.iconst 0, 1) := by decide +kernel
theorem dX5_idealBy_21 : decode cX5_idealBy 21 = .ok (.invokevirtual 68, 3) := by decide +kernel
theorem dX5_idealBy_24 : decode cX5_idealBy 24 = .ok (.aload_n 0, 1) := by decide +kernel
theorem dX5_idealBy_25 : decode cX5_idealBy 25 = .ok (.sipush 2510, 3) := by decide +kernel
theorem dX5_idealBy_28 : decode cX5_idealBy 28 = .ok (.invokevirtual 88, 3) := by decide +kernel
theorem dX5_idealBy_31 : decode cX5_idealBy 31 = .ok (.ireturn, 1) := by decide +kernel
theorem dX5_idealArea_0 : decode cX5_idealArea 0 = .ok (.iload_n 1, 1) := by decide +kernel
theorem dX5_idealArea_1 : decode cX5_idealArea 1 = .ok (.invokestatic 34, 3) := by decide +kernel
theorem dX5_idealArea_4 : decode cX5_idealArea 4 = .ok (.ifCond .eq 17, 3) := by decide +kernel
theorem dX5_idealArea_7 : decode cX5_idealArea 7 = .ok (.aload_n 0, 1) := by decide +kernel
theorem dX5_idealArea_8 : decode cX5_idealArea 8 = .ok (.iload_n 1, 1) := by decide +kernel
theorem dX5_idealArea_9 : decode cX5_idealArea 9 = .ok (.aload_n 0, 1) := by decide +kernel
theorem dX5_idealArea_10 : decode cX5_idealArea 10 = .ok (.iload_n 1, 1) := by decide +kernel
theorem dX5_idealArea_11 : decode cX5_idealArea 11 = .ok (.iconst 1, 1) := by decide +kernel
theorem dX5_idealArea_12 : decode cX5_idealArea 12 = .ok (.invokevirtual 65, 3) := by decide +kernel
theorem dX5_idealArea_15 : decode cX5_idealArea 15 = .ok (.invokevirtual 149, 3) := by decide +kernel
theorem dX5_idealArea_18 : decode cX5_idealArea 18 = .ok (.goto 5, 3) := by decide +kernel
theorem dX5_idealArea_21 : decode cX5_idealArea 21 = .ok (.ldc 26, 2) := by decide +kernel
theorem dX5_idealArea_23 : decode cX5_idealArea 23 = .ok (.ireturn, 1) := by decide +kernel
theorem dX5_canCut_0 : decode cX5_canCut 0 = .ok (.iload_n 2, 1) := by decide +kernel
theorem dX5_canCut_1 : decode cX5_canCut 1 = .ok (.aload_n 0, 1) := by decide +kernel
theorem dX5_canCut_2 : decode cX5_canCut 2 = .ok (.iload_n 1, 1) := by decide +kernel
theorem dX5_canCut_3 : decode cX5_canCut 3 = .ok (.iconst 0, 1) := by decide +kernel
theorem dX5_canCut_4 : decode cX5_canCut 4 = .ok (.invokevirtual 65, 3) := by decide +kernel
theorem dX5_canCut_7 : decode cX5_canCut 7 = .ok (.if_icmp .le 17, 3) := by decide +kernel
theorem dX5_canCut_10 : decode cX5_canCut 10 = .ok (.iload_n 2, 1) := by decide +kernel
theorem dX5_canCut_11 : decode cX5_canCut 11 = .ok (.aload_n 0, 1) := by decide +kernel
theorem dX5_canCut_12 : decode cX5_canCut 12 = .ok (.iload_n 1, 1) := by decide +kernel
theorem dX5_canCut_13 : decode cX5_canCut 13 = .ok (.iconst 2, 1) := by decide +kernel
theorem dX5_canCut_14 : decode cX5_canCut 14 = .ok (.invokevirtual 65, 3) := by decide +kernel
theorem dX5_canCut_17 : decode cX5_canCut 17 = .ok (.if_icmp .ge 7, 3) := by decide +kernel
theorem dX5_canCut_20 : decode cX5_canCut 20 = .ok (.iconst 1, 1) := by decide +kernel
theorem dX5_canCut_21 : decode cX5_canCut 21 = .ok (.goto 4, 3) := by decide +kernel
theorem dX5_canCut_24 : decode cX5_canCut 24 = .ok (.iconst 0, 1) := by decide +kernel
theorem dX5_canCut_25 : decode cX5_canCut 25 = .ok (.ireturn, 1) := by decide +kernel
theorem dX5_bestCutOff_0 : decode cX5_bestCutOff 0 = .ok (.iload_n 1, 1) := by decide +kernel
theorem dX5_bestCutOff_1 : decode cX5_bestCutOff 1 = .ok (.invokestatic 34, 3) := by decide +kernel
theorem dX5_bestCutOff_4 : decode cX5_bestCutOff 4 = .ok (.ifCond .eq 14, 3) := by decide +kernel
theorem dX5_bestCutOff_7 : decode cX5_bestCutOff 7 = .ok (.iload_n 2, 1) := by decide +kernel
theorem dX5_bestCutOff_8 : decode cX5_bestCutOff 8 = .ok (.ldc 152, 2) := by decide +kernel
theorem dX5_bestCutOff_10 : decode cX5_bestCutOff 10 = .ok (.ldc 153, 2) := by decide +kernel
theorem dX5_bestCutOff_12 : decode cX5_bestCutOff 12 = .ok (.invokestatic 13, 3) := by decide +kernel
theorem dX5_bestCutOff_15 : decode cX5_bestCutOff 15 = .ok (.ifCond .ne 6, 3) := by decide +kernel
theorem dX5_bestCutOff_18 : decode cX5_bestCutOff 18 = .ok (.ldc 26, 2) := by decide +kernel
theorem dX5_bestCutOff_20 : decode cX5_bestCutOff 20 = .ok (.ireturn, 1) := by decide +kernel
theorem dX5_bestCutOff_21 : decode cX5_bestCutOff 21 = .ok (.iconst 0, 1) := by decide +kernel
theorem dX5_bestCutOff_22 : decode cX5_bestCutOff 22 = .ok (.istore_n 3, 1) := by decide +kernel
theorem dX5_bestCutOff_23 : decode cX5_bestCutOff 23 = .ok (.iconst 0, 1) := by decide +kernel
theorem dX5_bestCutOff_24 : decode cX5_bestCutOff 24 = .ok (.istore 4, 2) := by decide +kernel
theorem dX5_bestCutOff_26 : decode cX5_bestCutOff 26 = .ok (.iconst 1, 1) := by decide +kernel
theorem dX5_bestCutOff_27 : decode cX5_bestCutOff 27 = .ok (.istore 5, 2) := by decide +kernel
theorem dX5_bestCutOff_29 : decode cX5_bestCutOff 29 = .ok (.iload 5, 2) := by decide +kernel
theorem dX5_bestCutOff_31 : decode cX5_bestCutOff 31 = .ok (.bipush 19, 2) := by decide +kernel
theorem dX5_bestCutOff_33 : decode cX5_bestCutOff 33 = .ok (.if_icmp .ge 91, 3) := by decide +kernel
theorem dX5_bestCutOff_36 : decode cX5_bestCutOff 36 = .ok (.aload_n 0, 1) := by decide +kernel
theorem dX5_bestCutOff_37 : decode cX5_bestCutOff 37 = .ok (.iload_n 1, 1) := by decide +kernel
theorem dX5_bestCutOff_38 : decode cX5_bestCutOff 38 = .ok (.iload 5, 2) := by decide +kernel
theorem dX5_bestCutOff_40 : decode cX5_bestCutOff 40 = .ok (.invokevirtual 154, 3) := by decide +kernel
theorem dX5_bestCutOff_43 : decode cX5_bestCutOff 43 = .ok (.ifCond .eq 18, 3) := by decide +kernel
theorem dX5_bestCutOff_46 : decode cX5_bestCutOff 46 = .ok (.aload_n 0, 1) := by decide +kernel
theorem dX5_bestCutOff_47 : decode cX5_bestCutOff 47 = .ok (.iload_n 1, 1) := by decide +kernel
theorem dX5_bestCutOff_48 : decode cX5_bestCutOff 48 = .ok (.iload 5, 2) := by decide +kernel
theorem dX5_bestCutOff_50 : decode cX5_bestCutOff 50 = .ok (.invokevirtual 149, 3) := by decide +kernel
theorem dX5_bestCutOff_53 : decode cX5_bestCutOff 53 = .ok (.iload_n 2, 1) := by decide +kernel
theorem dX5_bestCutOff_54 : decode cX5_bestCutOff 54 = .ok (.isub, 1) := by decide +kernel
theorem dX5_bestCutOff_55 : decode cX5_bestCutOff 55 = .ok (.invokestatic 131, 3) := by decide +kernel
theorem dX5_bestCutOff_58 : decode cX5_bestCutOff 58 = .ok (.goto 4, 3) := by decide +kernel
theorem dX5_bestCutOff_61 : decode cX5_bestCutOff 61 = .ok (.iconst 0, 1) := by decide +kernel
theorem dX5_bestCutOff_62 : decode cX5_bestCutOff 62 = .ok (.istore 6, 2) := by decide +kernel
theorem dX5_bestCutOff_64 : decode cX5_bestCutOff 64 = .ok (.aload_n 0, 1) := by decide +kernel
theorem dX5_bestCutOff_65 : decode cX5_bestCutOff 65 = .ok (.iload_n 1, 1) := by decide +kernel
theorem dX5_bestCutOff_66 : decode cX5_bestCutOff 66 = .ok (.iload 5, 2) := by decide +kernel
theorem dX5_bestCutOff_68 : decode cX5_bestCutOff 68 = .ok (.invokevirtual 154, 3) := by decide +kernel
theorem dX5_bestCutOff_71 : decode cX5_bestCutOff 71 = .ok (.ifCond .eq 18, 3) := by decide +kernel
theorem dX5_bestCutOff_74 : decode cX5_bestCutOff 74 = .ok (.iload_n 3, 1) := by decide +kernel
theorem dX5_bestCutOff_75 : decode cX5_bestCutOff 75 = .ok (.ifCond .eq 10, 3) := by decide +kernel
theorem dX5_bestCutOff_78 : decode cX5_bestCutOff 78 = .ok (.iload 6, 2) := by decide +kernel
theorem dX5_bestCutOff_80 : decode cX5_bestCutOff 80 = .ok (.iload 4, 2) := by decide +kernel
theorem dX5_bestCutOff_82 : decode cX5_bestCutOff 82 = .ok (.if_icmp .ge 7, 3) := by decide +kernel
theorem dX5_bestCutOff_85 : decode cX5_bestCutOff 85 = .ok (.iconst 1, 1) := by decide +kernel
theorem dX5_bestCutOff_86 : decode cX5_bestCutOff 86 = .ok (.goto 4, 3) := by decide +kernel
theorem dX5_bestCutOff_89 : decode cX5_bestCutOff 89 = .ok (.iconst 0, 1) := by decide +kernel
theorem dX5_bestCutOff_90 : decode cX5_bestCutOff 90 = .ok (.istore 7, 2) := by decide +kernel
theorem dX5_bestCutOff_92 : decode cX5_bestCutOff 92 = .ok (.iload 7, 2) := by decide +kernel
theorem dX5_bestCutOff_94 : decode cX5_bestCutOff 94 = .ok (.ifCond .eq 8, 3) := by decide +kernel
theorem dX5_bestCutOff_97 : decode cX5_bestCutOff 97 = .ok (.iload 5, 2) := by decide +kernel
theorem dX5_bestCutOff_99 : decode cX5_bestCutOff 99 = .ok (.goto 4, 3) := by decide +kernel
theorem dX5_bestCutOff_102 : decode cX5_bestCutOff 102 = .ok (.iload_n 3, 1) := by decide +kernel
theorem dX5_bestCutOff_103 : decode cX5_bestCutOff 103 = .ok (.istore_n 3, 1) := by decide +kernel
theorem dX5_bestCutOff_104 : decode cX5_bestCutOff 104 = .ok (.iload 7, 2) := by decide +kernel
theorem dX5_bestCutOff_106 : decode cX5_bestCutOff 106 = .ok (.ifCond .eq 8, 3) := by decide +kernel
theorem dX5_bestCutOff_109 : decode cX5_bestCutOff 109 = .ok (.iload 6, 2) := by decide +kernel
theorem dX5_bestCutOff_111 : decode cX5_bestCutOff 111 = .ok (.goto 5, 3) := by decide +kernel
theorem dX5_bestCutOff_114 : decode cX5_bestCutOff 114 = .ok (.iload 4, 2) := by decide +kernel
theorem dX5_bestCutOff_116 : decode cX5_bestCutOff 116 = .ok (.istore 4, 2) := by decide +kernel
theorem dX5_bestCutOff_118 : decode cX5_bestCutOff 118 = .ok (.iinc 5 1, 3) := by decide +kernel
theorem dX5_bestCutOff_121 : decode cX5_bestCutOff 121 = .ok (.goto (-92), 3) := by decide +kernel
theorem dX5_bestCutOff_124 : decode cX5_bestCutOff 124 = .ok (.iload_n 3, 1) := by decide +kernel
theorem dX5_bestCutOff_125 : decode cX5_bestCutOff 125 = .ok (.ireturn, 1) := by decide +kernel
theorem dX5_balancingCutOff_0 : decode cX5_balancingCutOff 0 = .ok (.aload_n 0, 1) := by decide +kernel
theorem dX5_balancingCutOff_1 : decode cX5_balancingCutOff 1 = .ok (.aload_n 0, 1) := by decide +kernel
theorem dX5_balancingCutOff_2 : decode cX5_balancingCutOff 2 = .ok (.iconst 0, 1) := by decide +kernel
theorem dX5_balancingCutOff_3 : decode cX5_balancingCutOff 3 = .ok (.aload_n 0, 1) := by decide +kernel
theorem dX5_balancingCutOff_4 : decode cX5_balancingCutOff 4 = .ok (.iconst 0, 1) := by decide +kernel
theorem dX5_balancingCutOff_5 : decode cX5_balancingCutOff 5 = .ok (.iconst 1, 1) := by decide +kernel
theorem dX5_balancingCutOff_6 : decode cX5_balancingCutOff 6 = .ok (.invokevirtual 65, 3) := by decide +kernel
theorem dX5_balancingCutOff_9 : decode cX5_balancingCutOff 9 = .ok (.invokevirtual 149, 3) := by decide +kernel
theorem dX5_balancingCutOff_12 : decode cX5_balancingCutOff 12 = .ok (.iconst 0, 1) := by decide +kernel
theorem dX5_balancingCutOff_13 : decode cX5_balancingCutOff 13 = .ok (.bipush 60, 2) := by decide +kernel
theorem dX5_balancingCutOff_15 : decode cX5_balancingCutOff 15 = .ok (.invokevirtual 97, 3) := by decide +kernel
theorem dX5_balancingCutOff_18 : decode cX5_balancingCutOff 18 = .ok (.lstore_n 1, 1) := by decide +kernel
theorem dX5_balancingCutOff_19 : decode cX5_balancingCutOff 19 = .ok (.iconst 0, 1) := by decide +kernel
theorem dX5_balancingCutOff_20 : decode cX5_balancingCutOff 20 = .ok (.istore_n 3, 1) := by decide +kernel
theorem dX5_balancingCutOff_21 : decode cX5_balancingCutOff 21 = .ok (.lconst 0, 1) := by decide +kernel
theorem dX5_balancingCutOff_22 : decode cX5_balancingCutOff 22 = .ok (.lstore 4, 2) := by decide +kernel
theorem dX5_balancingCutOff_24 : decode cX5_balancingCutOff 24 = .ok (.iconst 1, 1) := by decide +kernel
theorem dX5_balancingCutOff_25 : decode cX5_balancingCutOff 25 = .ok (.istore 6, 2) := by decide +kernel
theorem dX5_balancingCutOff_27 : decode cX5_balancingCutOff 27 = .ok (.iload 6, 2) := by decide +kernel
theorem dX5_balancingCutOff_29 : decode cX5_balancingCutOff 29 = .ok (.bipush 19, 2) := by decide +kernel
theorem dX5_balancingCutOff_31 : decode cX5_balancingCutOff 31 = .ok (.if_icmp .ge 113, 3) := by decide +kernel
theorem dX5_balancingCutOff_34 : decode cX5_balancingCutOff 34 = .ok (.aload_n 0, 1) := by decide +kernel
theorem dX5_balancingCutOff_35 : decode cX5_balancingCutOff 35 = .ok (.iconst 1, 1) := by decide +kernel
theorem dX5_balancingCutOff_36 : decode cX5_balancingCutOff 36 = .ok (.iload 6, 2) := by decide +kernel
theorem dX5_balancingCutOff_38 : decode cX5_balancingCutOff 38 = .ok (.invokevirtual 154, 3) := by decide +kernel
theorem dX5_balancingCutOff_41 : decode cX5_balancingCutOff 41 = .ok (.ifCond .eq 22, 3) := by decide +kernel
theorem dX5_balancingCutOff_44 : decode cX5_balancingCutOff 44 = .ok (.aload_n 0, 1) := by decide +kernel
theorem dX5_balancingCutOff_45 : decode cX5_balancingCutOff 45 = .ok (.aload_n 0, 1) := by decide +kernel
theorem dX5_balancingCutOff_46 : decode cX5_balancingCutOff 46 = .ok (.iconst 1, 1) := by decide +kernel
theorem dX5_balancingCutOff_47 : decode cX5_balancingCutOff 47 = .ok (.iload 6, 2) := by decide +kernel
theorem dX5_balancingCutOff_49 : decode cX5_balancingCutOff 49 = .ok (.invokevirtual 149, 3) := by decide +kernel
theorem dX5_balancingCutOff_52 : decode cX5_balancingCutOff 52 = .ok (.iconst 1, 1) := by decide +kernel
theorem dX5_balancingCutOff_53 : decode cX5_balancingCutOff 53 = .ok (.bipush 60, 2) := by decide +kernel
theorem dX5_balancingCutOff_55 : decode cX5_balancingCutOff 55 = .ok (.invokevirtual 97, 3) := by decide +kernel
theorem dX5_balancingCutOff_58 : decode cX5_balancingCutOff 58 = .ok (.lload_n 1, 1) := by decide +kernel
theorem dX5_balancingCutOff_59 : decode cX5_balancingCutOff 59 = .ok (.lsub, 1) := by decide +kernel
theorem dX5_balancingCutOff_60 : decode cX5_balancingCutOff 60 = .ok (.goto 4, 3) := by decide +kernel
theorem dX5_balancingCutOff_63 : decode cX5_balancingCutOff 63 = .ok (.lconst 0, 1) := by decide +kernel
theorem dX5_balancingCutOff_64 : decode cX5_balancingCutOff 64 = .ok (.lstore 7, 2) := by decide +kernel
theorem dX5_balancingCutOff_66 : decode cX5_balancingCutOff 66 = .ok (.lload 7, 2) := by decide +kernel
theorem dX5_balancingCutOff_68 : decode cX5_balancingCutOff 68 = .ok (.lconst 0, 1) := by decide +kernel
theorem dX5_balancingCutOff_69 : decode cX5_balancingCutOff 69 = .ok (.lcmp, 1) := by decide +kernel
theorem dX5_balancingCutOff_70 : decode cX5_balancingCutOff 70 = .ok (.ifCond .ge 9, 3) := by decide +kernel
theorem dX5_balancingCutOff_73 : decode cX5_balancingCutOff 73 = .ok (.lload 7, 2) := by decide +kernel
theorem dX5_balancingCutOff_75 : decode cX5_balancingCutOff 75 = .ok (.lneg, 1) := by decide +kernel
theorem dX5_balancingCutOff_76 : decode cX5_balancingCutOff 76 = .ok (.goto 5, 3) := by decide +kernel
theorem dX5_balancingCutOff_79 : decode cX5_balancingCutOff 79 = .ok (.lload 7, 2) := by decide +kernel
theorem dX5_balancingCutOff_81 : decode cX5_balancingCutOff 81 = .ok (.lstore 9, 2) := by decide +kernel
theorem dX5_balancingCutOff_83 : decode cX5_balancingCutOff 83 = .ok (.aload_n 0, 1) := by decide +kernel
theorem dX5_balancingCutOff_84 : decode cX5_balancingCutOff 84 = .ok (.iconst 1, 1) := by decide +kernel
theorem dX5_balancingCutOff_85 : decode cX5_balancingCutOff 85 = .ok (.iload 6, 2) := by decide +kernel
theorem dX5_balancingCutOff_87 : decode cX5_balancingCutOff 87 = .ok (.invokevirtual 154, 3) := by decide +kernel
theorem dX5_balancingCutOff_90 : decode cX5_balancingCutOff 90 = .ok (.ifCond .eq 19, 3) := by decide +kernel
theorem dX5_balancingCutOff_93 : decode cX5_balancingCutOff 93 = .ok (.iload_n 3, 1) := by decide +kernel
theorem dX5_balancingCutOff_94 : decode cX5_balancingCutOff 94 = .ok (.ifCond .eq 11, 3) := by decide +kernel
theorem dX5_balancingCutOff_97 : decode cX5_balancingCutOff 97 = .ok (.lload 9, 2) := by decide +kernel
theorem dX5_balancingCutOff_99 : decode cX5_balancingCutOff 99 = .ok (.lload 4, 2) := by decide +kernel
theorem dX5_balancingCutOff_101 : decode cX5_balancingCutOff 101 = .ok (.lcmp, 1) := by decide +kernel
theorem dX5_balancingCutOff_102 : decode cX5_balancingCutOff 102 = .ok (.ifCond .ge 7, 3) := by decide +kernel
theorem dX5_balancingCutOff_105 : decode cX5_balancingCutOff 105 = .ok (.iconst 1, 1) := by decide +kernel
theorem dX5_balancingCutOff_106 : decode cX5_balancingCutOff 106 = .ok (.goto 4, 3) := by decide +kernel
theorem dX5_balancingCutOff_109 : decode cX5_balancingCutOff 109 = .ok (.iconst 0, 1) := by decide +kernel
theorem dX5_balancingCutOff_110 : decode cX5_balancingCutOff 110 = .ok (.istore 11, 2) := by decide +kernel
theorem dX5_balancingCutOff_112 : decode cX5_balancingCutOff 112 = .ok (.iload 11, 2) := by decide +kernel
theorem dX5_balancingCutOff_114 : decode cX5_balancingCutOff 114 = .ok (.ifCond .eq 8, 3) := by decide +kernel
theorem dX5_balancingCutOff_117 : decode cX5_balancingCutOff 117 = .ok (.iload 6, 2) := by decide +kernel
theorem dX5_balancingCutOff_119 : decode cX5_balancingCutOff 119 = .ok (.goto 4, 3) := by decide +kernel
theorem dX5_balancingCutOff_122 : decode cX5_balancingCutOff 122 = .ok (.iload_n 3, 1) := by decide +kernel
theorem dX5_balancingCutOff_123 : decode cX5_balancingCutOff 123 = .ok (.istore_n 3, 1) := by decide +kernel
theorem dX5_balancingCutOff_124 : decode cX5_balancingCutOff 124 = .ok (.iload 11, 2) := by decide +kernel
theorem dX5_balancingCutOff_126 : decode cX5_balancingCutOff 126 = .ok (.ifCond .eq 8, 3) := by decide +kernel
theorem dX5_balancingCutOff_129 : decode cX5_balancingCutOff 129 = .ok (.lload 9, 2) := by decide +kernel
theorem dX5_balancingCutOff_131 : decode cX5_balancingCutOff 131 = .ok (.goto 5, 3) := by decide +kernel
theorem dX5_balancingCutOff_134 : decode cX5_balancingCutOff 134 = .ok (.lload 4, 2) := by decide +kernel
theorem dX5_balancingCutOff_136 : decode cX5_balancingCutOff 136 = .ok (.lstore 4, 2) := by decide +kernel
theorem dX5_balancingCutOff_138 : decode cX5_balancingCutOff 138 = .ok (.iinc 6 1, 3) := by decide +kernel
theorem dX5_balancingCutOff_141 : decode cX5_balancingCutOff 141 = .ok (.goto (-114), 3) := by decide +kernel
theorem dX5_balancingCutOff_144 : decode cX5_balancingCutOff 144 = .ok (.iload_n 3, 1) := by decide +kernel
theorem dX5_balancingCutOff_145 : decode cX5_balancingCutOff 145 = .ok (.ireturn, 1) := by decide +kernel
