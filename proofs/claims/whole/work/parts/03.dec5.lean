theorem dX9_undo_27 : decode cX9_undo 27 = .ok (.iload_n 1, 1) := by decide +kernel
theorem dX9_undo_28 : decode cX9_undo 28 = .ok (.bipush 23, 2) := by decide +kernel
theorem dX9_undo_30 : decode cX9_undo 30 = .ok (.if_icmp .ge 29, 3) := by decide +kernel
theorem dX9_undo_33 : decode cX9_undo 33 = .ok (.aload_n 0, 1) := by decide +kernel
theorem dX9_undo_34 : decode cX9_undo 34 = .ok (.getfield 28, 3) := by decide +kernel
theorem dX9_undo_37 : decode cX9_undo 37 = .ok (.iload_n 1, 1) := by decide +kernel
theorem dX9_undo_38 : decode cX9_undo 38 = .ok (.aload_n 0, 1) := by decide +kernel
theorem dX9_undo_39 : decode cX9_undo 39 = .ok (.getfield 34, 3) := by decide +kernel
theorem dX9_undo_42 : decode cX9_undo 42 = .ok (.bipush 23, 2) := by decide +kernel
theorem dX9_undo_44 : decode cX9_undo 44 = .ok (.aload_n 0, 1) := by decide +kernel
theorem dX9_undo_45 : decode cX9_undo 45 = .ok (.getfield 112, 3) := by decide +kernel
theorem dX9_undo_48 : decode cX9_undo 48 = .ok (.imul, 1) := by decide +kernel
theorem dX9_undo_49 : decode cX9_undo 49 = .ok (.iload_n 1, 1) := by decide +kernel
theorem dX9_undo_50 : decode cX9_undo 50 = .ok (.iadd, 1) := by decide +kernel
theorem dX9_undo_51 : decode cX9_undo 51 = .ok (.iaload, 1) := by decide +kernel
theorem dX9_undo_52 : decode cX9_undo 52 = .ok (.iastore, 1) := by decide +kernel
theorem dX9_undo_53 : decode cX9_undo 53 = .ok (.iinc 1 1, 3) := by decide +kernel
theorem dX9_undo_56 : decode cX9_undo 56 = .ok (.goto (-29), 3) := by decide +kernel
theorem dX9_undo_59 : decode cX9_undo 59 = .ok (.aload_n 0, 1) := by decide +kernel
theorem dX9_undo_60 : decode cX9_undo 60 = .ok (.getfield 112, 3) := by decide +kernel
theorem dX9_undo_63 : decode cX9_undo 63 = .ok (.ireturn, 1) := by decide +kernel
theorem dX9_begin_0 : decode cX9_begin 0 = .ok (.aload_n 0, 1) := by decide +kernel
theorem dX9_begin_1 : decode cX9_begin 1 = .ok (.bipush 7, 2) := by decide +kernel
theorem dX9_begin_3 : decode cX9_begin 3 = .ok (.putfield 141, 3) := by decide +kernel
theorem dX9_begin_6 : decode cX9_begin 6 = .ok (.iconst 0, 1) := by decide +kernel
theorem dX9_begin_7 : decode cX9_begin 7 = .ok (.istore_n 1, 1) := by decide +kernel
theorem dX9_begin_8 : decode cX9_begin 8 = .ok (.iload_n 1, 1) := by decide +kernel
theorem dX9_begin_9 : decode cX9_begin 9 = .ok (.bipush 23, 2) := by decide +kernel
theorem dX9_begin_11 : decode cX9_begin 11 = .ok (.if_icmp .ge 21, 3) := by decide +kernel
theorem dX9_begin_14 : decode cX9_begin 14 = .ok (.aload_n 0, 1) := by decide +kernel
theorem dX9_begin_15 : decode cX9_begin 15 = .ok (.getfield 31, 3) := by decide +kernel
theorem dX9_begin_18 : decode cX9_begin 18 = .ok (.iload_n 1, 1) := by decide +kernel
theorem dX9_begin_19 : decode cX9_begin 19 = .ok (.aload_n 0, 1) := by decide +kernel
theorem dX9_begin_20 : decode cX9_begin 20 = .ok (.getfield 28, 3) := by decide +kernel
theorem dX9_begin_23 : decode cX9_begin 23 = .ok (.iload_n 1, 1) := by decide +kernel
theorem dX9_begin_24 : decode cX9_begin 24 = .ok (.iaload, 1) := by decide +kernel
theorem dX9_begin_25 : decode cX9_begin 25 = .ok (.iastore, 1) := by decide +kernel
theorem dX9_begin_26 : decode cX9_begin 26 = .ok (.iinc 1 1, 3) := by decide +kernel
theorem dX9_begin_29 : decode cX9_begin 29 = .ok (.goto (-21), 3) := by decide +kernel
theorem dX9_begin_32 : decode cX9_begin 32 = .ok (.return_, 1) := by decide +kernel
theorem dX9_ahead_0 : decode cX9_ahead 0 = .ok (.aload_n 0, 1) := by decide +kernel
theorem dX9_ahead_1 : decode cX9_ahead 1 = .ok (.iconst 0, 1) := by decide +kernel
theorem dX9_ahead_2 : decode cX9_ahead 2 = .ok (.putfield 59, 3) := by decide +kernel
theorem dX9_ahead_5 : decode cX9_ahead 5 = .ok (.iload_n 1, 1) := by decide +kernel
theorem dX9_ahead_6 : decode cX9_ahead 6 = .ok (.i2l, 1) := by decide +kernel
theorem dX9_ahead_7 : decode cX9_ahead 7 = .ok (.lconst 0, 1) := by decide +kernel
theorem dX9_ahead_8 : decode cX9_ahead 8 = .ok (.ldc2_w 187, 3) := by decide +kernel
theorem dX9_ahead_11 : decode cX9_ahead 11 = .ok (.invokestatic 66, 3) := by decide +kernel
theorem dX9_ahead_14 : decode cX9_ahead 14 = .ok (.ifCond .eq 15, 3) := by decide +kernel
theorem dX9_ahead_17 : decode cX9_ahead 17 = .ok (.iload_n 2, 1) := by decide +kernel
theorem dX9_ahead_18 : decode cX9_ahead 18 = .ok (.i2l, 1) := by decide +kernel
theorem dX9_ahead_19 : decode cX9_ahead 19 = .ok (.lconst 0, 1) := by decide +kernel
theorem dX9_ahead_20 : decode cX9_ahead 20 = .ok (.ldc2_w 189, 3) := by decide +kernel
theorem dX9_ahead_23 : decode cX9_ahead 23 = .ok (.invokestatic 66, 3) := by decide +kernel
theorem dX9_ahead_26 : decode cX9_ahead 26 = .ok (.ifCond .ne 6, 3) := by decide +kernel
theorem dX9_ahead_29 : decode cX9_ahead 29 = .ok (.bipush (-2), 2) := by decide +kernel
theorem dX9_ahead_31 : decode cX9_ahead 31 = .ok (.ireturn, 1) := by decide +kernel
theorem dX9_ahead_32 : decode cX9_ahead 32 = .ok (.aload_n 0, 1) := by decide +kernel
theorem dX9_ahead_33 : decode cX9_ahead 33 = .ok (.invokevirtual 191, 3) := by decide +kernel
theorem dX9_ahead_36 : decode cX9_ahead 36 = .ok (.aload_n 0, 1) := by decide +kernel
theorem dX9_ahead_37 : decode cX9_ahead 37 = .ok (.iload_n 1, 1) := by decide +kernel
theorem dX9_ahead_38 : decode cX9_ahead 38 = .ok (.invokevirtual 194, 3) := by decide +kernel
theorem dX9_ahead_41 : decode cX9_ahead 41 = .ok (.aload_n 0, 1) := by decide +kernel
theorem dX9_ahead_42 : decode cX9_ahead 42 = .ok (.aload_n 0, 1) := by decide +kernel
theorem dX9_ahead_43 : decode cX9_ahead 43 = .ok (.getfield 31, 3) := by decide +kernel
theorem dX9_ahead_46 : decode cX9_ahead 46 = .ok (.iload_n 2, 1) := by decide +kernel
theorem dX9_ahead_47 : decode cX9_ahead 47 = .ok (.invokevirtual 122, 3) := by decide +kernel
theorem dX9_ahead_50 : decode cX9_ahead 50 = .ok (.ireturn, 1) := by decide +kernel
theorem dX9_hatchesThen_0 : decode cX9_hatchesThen 0 = .ok (.iconst 0, 1) := by decide +kernel
theorem dX9_hatchesThen_1 : decode cX9_hatchesThen 1 = .ok (.istore_n 2, 1) := by decide +kernel
theorem dX9_hatchesThen_2 : decode cX9_hatchesThen 2 = .ok (.iload_n 2, 1) := by decide +kernel
theorem dX9_hatchesThen_3 : decode cX9_hatchesThen 3 = .ok (.bipush 20, 2) := by decide +kernel
theorem dX9_hatchesThen_5 : decode cX9_hatchesThen 5 = .ok (.if_icmp .gt 35, 3) := by decide +kernel
theorem dX9_hatchesThen_8 : decode cX9_hatchesThen 8 = .ok (.aload_n 0, 1) := by decide +kernel
theorem dX9_hatchesThen_9 : decode cX9_hatchesThen 9 = .ok (.aload_n 0, 1) := by decide +kernel
theorem dX9_hatchesThen_10 : decode cX9_hatchesThen 10 = .ok (.getfield 31, 3) := by decide +kernel
theorem dX9_hatchesThen_13 : decode cX9_hatchesThen 13 = .ok (.invokevirtual 198, 3) := by decide +kernel
theorem dX9_hatchesThen_16 : decode cX9_hatchesThen 16 = .ok (.iload_n 1, 1) := by decide +kernel
theorem dX9_hatchesThen_17 : decode cX9_hatchesThen 17 = .ok (.invokestatic 144, 3) := by decide +kernel
theorem dX9_hatchesThen_20 : decode cX9_hatchesThen 20 = .ok (.ifCond .eq 5, 3) := by decide +kernel
theorem dX9_hatchesThen_23 : decode cX9_hatchesThen 23 = .ok (.iload_n 2, 1) := by decide +kernel
theorem dX9_hatchesThen_24 : decode cX9_hatchesThen 24 = .ok (.ireturn, 1) := by decide +kernel
theorem dX9_hatchesThen_25 : decode cX9_hatchesThen 25 = .ok (.aload_n 0, 1) := by decide +kernel
theorem dX9_hatchesThen_26 : decode cX9_hatchesThen 26 = .ok (.aload_n 0, 1) := by decide +kernel
theorem dX9_hatchesThen_27 : decode cX9_hatchesThen 27 = .ok (.getfield 31, 3) := by decide +kernel
theorem dX9_hatchesThen_30 : decode cX9_hatchesThen 30 = .ok (.invokevirtual 155, 3) := by decide +kernel
theorem dX9_hatchesThen_33 : decode cX9_hatchesThen 33 = .ok (.pop, 1) := by decide +kernel
theorem dX9_hatchesThen_34 : decode cX9_hatchesThen 34 = .ok (.iinc 2 1, 3) := by decide +kernel
theorem dX9_hatchesThen_37 : decode cX9_hatchesThen 37 = .ok (.goto (-35), 3) := by decide +kernel
theorem dX9_hatchesThen_40 : decode cX9_hatchesThen 40 = .ok (.bipush (-9), 2) := by decide +kernel
theorem dX9_hatchesThen_42 : decode cX9_hatchesThen 42 = .ok (.ireturn, 1) := by decide +kernel
theorem dX9_hatches_0 : decode cX9_hatches 0 = .ok (.aload_n 0, 1) := by decide +kernel
theorem dX9_hatches_1 : decode cX9_hatches 1 = .ok (.iconst 0, 1) := by decide +kernel
theorem dX9_hatches_2 : decode cX9_hatches 2 = .ok (.putfield 59, 3) := by decide +kernel
theorem dX9_hatches_5 : decode cX9_hatches 5 = .ok (.aload_n 0, 1) := by decide +kernel
theorem dX9_hatches_6 : decode cX9_hatches 6 = .ok (.iload_n 1, 1) := by decide +kernel
theorem dX9_hatches_7 : decode cX9_hatches 7 = .ok (.invokevirtual 164, 3) := by decide +kernel
theorem dX9_hatches_10 : decode cX9_hatches 10 = .ok (.ifCond .eq 5, 3) := by decide +kernel
theorem dX9_hatches_13 : decode cX9_hatches 13 = .ok (.iconst (-1), 1) := by decide +kernel
theorem dX9_hatches_14 : decode cX9_hatches 14 = .ok (.ireturn, 1) := by decide +kernel
theorem dX9_hatches_15 : decode cX9_hatches 15 = .ok (.aload_n 0, 1) := by decide +kernel
theorem dX9_hatches_16 : decode cX9_hatches 16 = .ok (.invokevirtual 191, 3) := by decide +kernel
theorem dX9_hatches_19 : decode cX9_hatches 19 = .ok (.aload_n 0, 1) := by decide +kernel
theorem dX9_hatches_20 : decode cX9_hatches 20 = .ok (.iload_n 1, 1) := by decide +kernel
theorem dX9_hatches_21 : decode cX9_hatches 21 = .ok (.invokevirtual 201, 3) := by decide +kernel
theorem dX9_hatches_24 : decode cX9_hatches 24 = .ok (.ireturn, 1) := by decide +kernel
theorem dX9_rows_0 : decode cX9_rows 0 = .ok (.aload_n 0, 1) := by decide +kernel
theorem dX9_rows_1 : decode cX9_rows 1 = .ok (.iconst 0, 1) := by decide +kernel
theorem dX9_rows_2 : decode cX9_rows 2 = .ok (.putfield 59, 3) := by decide +kernel
theorem dX9_rows_5 : decode cX9_rows 5 = .ok (.aload_n 0, 1) := by decide +kernel
theorem dX9_rows_6 : decode cX9_rows 6 = .ok (.bipush (-9), 2) := by decide +kernel
theorem dX9_rows_8 : decode cX9_rows 8 = .ok (.putfield 204, 3) := by decide +kernel
theorem dX9_rows_11 : decode cX9_rows 11 = .ok (.aload_n 0, 1) := by decide +kernel
theorem dX9_rows_12 : decode cX9_rows 12 = .ok (.iconst 0, 1) := by decide +kernel
theorem dX9_rows_13 : decode cX9_rows 13 = .ok (.putfield 207, 3) := by decide +kernel
theorem dX9_rows_16 : decode cX9_rows 16 = .ok (.iconst 0, 1) := by decide +kernel
theorem dX9_rows_17 : decode cX9_rows 17 = .ok (.istore_n 2, 1) := by decide +kernel
theorem dX9_rows_18 : decode cX9_rows 18 = .ok (.iload_n 2, 1) := by decide +kernel
theorem dX9_rows_19 : decode cX9_rows 19 = .ok (.iconst 3, 1) := by decide +kernel
theorem dX9_rows_20 : decode cX9_rows 20 = .ok (.aload_n 0, 1) := by decide +kernel
theorem dX9_rows_21 : decode cX9_rows 21 = .ok (.getfield 70, 3) := by decide +kernel
theorem dX9_rows_24 : decode cX9_rows 24 = .ok (.invokestatic 210, 3) := by decide +kernel
theorem dX9_rows_27 : decode cX9_rows 27 = .ok (.if_icmp .ge 122, 3) := by decide +kernel
theorem dX9_rows_30 : decode cX9_rows 30 = .ok (.aload_n 0, 1) := by decide +kernel
theorem dX9_rows_31 : decode cX9_rows 31 = .ok (.invokevirtual 191, 3) := by decide +kernel
theorem dX9_rows_34 : decode cX9_rows 34 = .ok (.iconst 0, 1) := by decide +kernel
theorem dX9_rows_35 : decode cX9_rows 35 = .ok (.istore_n 3, 1) := by decide +kernel
theorem dX9_rows_36 : decode cX9_rows 36 = .ok (.iconst 0, 1) := by decide +kernel
theorem dX9_rows_37 : decode cX9_rows 37 = .ok (.istore 4, 2) := by decide +kernel
theorem dX9_rows_39 : decode cX9_rows 39 = .ok (.iload 4, 2) := by decide +kernel
theorem dX9_rows_41 : decode cX9_rows 41 = .ok (.aload_n 0, 1) := by decide +kernel
theorem dX9_rows_42 : decode cX9_rows 42 = .ok (.getfield 70, 3) := by decide +kernel
theorem dX9_rows_45 : decode cX9_rows 45 = .ok (.if_icmp .ge 50, 3) := by decide +kernel
theorem dX9_rows_48 : decode cX9_rows 48 = .ok (.iload_n 2, 1) := by decide +kernel
theorem dX9_rows_49 : decode cX9_rows 49 = .ok (.iconst 3, 1) := by decide +kernel
theorem dX9_rows_50 : decode cX9_rows 50 = .ok (.aload_n 0, 1) := by decide +kernel
theorem dX9_rows_51 : decode cX9_rows 51 = .ok (.getfield 70, 3) := by decide +kernel
theorem dX9_rows_54 : decode cX9_rows 54 = .ok (.iconst 1, 1) := by decide +kernel
theorem dX9_rows_55 : decode cX9_rows 55 = .ok (.isub, 1) := by decide +kernel
theorem dX9_rows_56 : decode cX9_rows 56 = .ok (.iload 4, 2) := by decide +kernel
theorem dX9_rows_58 : decode cX9_rows 58 = .ok (.isub, 1) := by decide +kernel
theorem dX9_rows_59 : decode cX9_rows 59 = .ok (.invokestatic 210, 3) := by decide +kernel
theorem dX9_rows_62 : decode cX9_rows 62 = .ok (.idiv, 1) := by decide +kernel
theorem dX9_rows_63 : decode cX9_rows 63 = .ok (.iconst 3, 1) := by decide +kernel
theorem dX9_rows_64 : decode cX9_rows 64 = .ok (.irem, 1) := by decide +kernel
theorem dX9_rows_65 : decode cX9_rows 65 = .ok (.istore 5, 2) := by decide +kernel
theorem dX9_rows_67 : decode cX9_rows 67 = .ok (.aload_n 0, 1) := by decide +kernel
theorem dX9_rows_68 : decode cX9_rows 68 = .ok (.getfield 31, 3) := by decide +kernel
theorem dX9_rows_71 : decode cX9_rows 71 = .ok (.bipush 18, 2) := by decide +kernel
theorem dX9_rows_73 : decode cX9_rows 73 = .ok (.iload 4, 2) := by decide +kernel
theorem dX9_rows_75 : decode cX9_rows 75 = .ok (.iadd, 1) := by decide +kernel
theorem dX9_rows_76 : decode cX9_rows 76 = .ok (.iload 5, 2) := by decide +kernel
theorem dX9_rows_78 : decode cX9_rows 78 = .ok (.iastore, 1) := by decide +kernel
theorem dX9_rows_79 : decode cX9_rows 79 = .ok (.bipush 10, 2) := by decide +kernel
theorem dX9_rows_81 : decode cX9_rows 81 = .ok (.iload_n 3, 1) := by decide +kernel
theorem dX9_rows_82 : decode cX9_rows 82 = .ok (.imul, 1) := by decide +kernel
theorem dX9_rows_83 : decode cX9_rows 83 = .ok (.iload 5, 2) := by decide +kernel
theorem dX9_rows_85 : decode cX9_rows 85 = .ok (.iadd, 1) := by decide +kernel
theorem dX9_rows_86 : decode cX9_rows 86 = .ok (.iconst 1, 1) := by decide +kernel
theorem dX9_rows_87 : decode cX9_rows 87 = .ok (.iadd, 1) := by decide +kernel
theorem dX9_rows_88 : decode cX9_rows 88 = .ok (.istore_n 3, 1) := by decide +kernel
theorem dX9_rows_89 : decode cX9_rows 89 = .ok (.iinc 4 1, 3) := by decide +kernel
theorem dX9_rows_92 : decode cX9_rows 92 = .ok (.goto (-53), 3) := by decide +kernel
theorem dX9_rows_95 : decode cX9_rows 95 = .ok (.aload_n 0, 1) := by decide +kernel
theorem dX9_rows_96 : decode cX9_rows 96 = .ok (.bipush 9, 2) := by decide +kernel
theorem dX9_rows_98 : decode cX9_rows 98 = .ok (.invokevirtual 194, 3) := by decide +kernel
theorem dX9_rows_101 : decode cX9_rows 101 = .ok (.aload_n 0, 1) := by decide +kernel
theorem dX9_rows_102 : decode cX9_rows 102 = .ok (.aload_n 0, 1) := by decide +kernel
theorem dX9_rows_103 : decode cX9_rows 103 = .ok (.getfield 31, 3) := by decide +kernel
theorem dX9_rows_106 : decode cX9_rows 106 = .ok (.invokevirtual 198, 3) := by decide +kernel
theorem dX9_rows_109 : decode cX9_rows 109 = .ok (.invokestatic 128, 3) := by decide +kernel
theorem dX9_rows_112 : decode cX9_rows 112 = .ok (.istore 4, 2) := by decide +kernel
theorem dX9_rows_114 : decode cX9_rows 114 = .ok (.aload_n 0, 1) := by decide +kernel
theorem dX9_rows_115 : decode cX9_rows 115 = .ok (.getfield 204, 3) := by decide +kernel
theorem dX9_rows_118 : decode cX9_rows 118 = .ok (.bipush (-9), 2) := by decide +kernel
theorem dX9_rows_120 : decode cX9_rows 120 = .ok (.if_icmp .eq 12, 3) := by decide +kernel
theorem dX9_rows_123 : decode cX9_rows 123 = .ok (.iload 4, 2) := by decide +kernel
theorem dX9_rows_125 : decode cX9_rows 125 = .ok (.aload_n 0, 1) := by decide +kernel
theorem dX9_rows_126 : decode cX9_rows 126 = .ok (.getfield 204, 3) := by decide +kernel
theorem dX9_rows_129 : decode cX9_rows 129 = .ok (.if_icmp .ge 14, 3) := by decide +kernel
theorem dX9_rows_132 : decode cX9_rows 132 = .ok (.aload_n 0, 1) := by decide +kernel
theorem dX9_rows_133 : decode cX9_rows 133 = .ok (.iload 4, 2) := by decide +kernel
theorem dX9_rows_135 : decode cX9_rows 135 = .ok (.putfield 204, 3) := by decide +kernel
theorem dX9_rows_138 : decode cX9_rows 138 = .ok (.aload_n 0, 1) := by decide +kernel
theorem dX9_rows_139 : decode cX9_rows 139 = .ok (.iload_n 3, 1) := by decide +kernel
theorem dX9_rows_140 : decode cX9_rows 140 = .ok (.putfield 207, 3) := by decide +kernel
theorem dX9_rows_143 : decode cX9_rows 143 = .ok (.iinc 2 1, 3) := by decide +kernel
theorem dX9_rows_146 : decode cX9_rows 146 = .ok (.goto (-128), 3) := by decide +kernel
theorem dX9_rows_149 : decode cX9_rows 149 = .ok (.iload_n 1, 1) := by decide +kernel
theorem dX9_rows_150 : decode cX9_rows 150 = .ok (.ifCond .eq 10, 3) := by decide +kernel
theorem dX9_rows_153 : decode cX9_rows 153 = .ok (.aload_n 0, 1) := by decide +kernel
theorem dX9_rows_154 : decode cX9_rows 154 = .ok (.getfield 207, 3) := by decide +kernel
theorem dX9_rows_157 : decode cX9_rows 157 = .ok (.goto 7, 3) := by decide +kernel
theorem dX9_rows_160 : decode cX9_rows 160 = .ok (.aload_n 0, 1) := by decide +kernel
theorem dX9_rows_161 : decode cX9_rows 161 = .ok (.getfield 204, 3) := by decide +kernel
theorem dX9_rows_164 : decode cX9_rows 164 = .ok (.ireturn, 1) := by decide +kernel
theorem dX9_saved_0 : decode cX9_saved 0 = .ok (.aload_n 0, 1) := by decide +kernel
theorem dX9_saved_1 : decode cX9_saved 1 = .ok (.iconst 0, 1) := by decide +kernel
theorem dX9_saved_2 : decode cX9_saved 2 = .ok (.putfield 59, 3) := by decide +kernel
theorem dX9_saved_5 : decode cX9_saved 5 = .ok (.aload_n 0, 1) := by decide +kernel
theorem dX9_saved_6 : decode cX9_saved 6 = .ok (.iload_n 1, 1) := by decide +kernel
theorem dX9_saved_7 : decode cX9_saved 7 = .ok (.invokevirtual 164, 3) := by decide +kernel
theorem dX9_saved_10 : decode cX9_saved 10 = .ok (.ifCond .eq 5, 3) := by decide +kernel
theorem dX9_saved_13 : decode cX9_saved 13 = .ok (.iconst (-1), 1) := by decide +kernel
theorem dX9_saved_14 : decode cX9_saved 14 = .ok (.ireturn, 1) := by decide +kernel
theorem dX9_saved_15 : decode cX9_saved 15 = .ok (.aload_n 0, 1) := by decide +kernel
theorem dX9_saved_16 : decode cX9_saved 16 = .ok (.getfield 28, 3) := by decide +kernel
theorem dX9_saved_19 : decode cX9_saved 19 = .ok (.bipush 6, 2) := by decide +kernel
theorem dX9_saved_21 : decode cX9_saved 21 = .ok (.iload_n 1, 1) := by decide +kernel
theorem dX9_saved_22 : decode cX9_saved 22 = .ok (.iadd, 1) := by decide +kernel
theorem dX9_saved_23 : decode cX9_saved 23 = .ok (.iaload, 1) := by decide +kernel
theorem dX9_saved_24 : decode cX9_saved 24 = .ok (.ifCond .eq 6, 3) := by decide +kernel
theorem dX9_saved_27 : decode cX9_saved 27 = .ok (.bipush (-3), 2) := by decide +kernel
theorem dX9_saved_29 : decode cX9_saved 29 = .ok (.ireturn, 1) := by decide +kernel
theorem dX9_saved_30 : decode cX9_saved 30 = .ok (.bipush (-9), 2) := by decide +kernel
theorem dX9_saved_32 : decode cX9_saved 32 = .ok (.istore_n 2, 1) := by decide +kernel
theorem dX9_saved_33 : decode cX9_saved 33 = .ok (.iconst 0, 1) := by decide +kernel
theorem dX9_saved_34 : decode cX9_saved 34 = .ok (.istore_n 3, 1) := by decide +kernel
theorem dX9_saved_35 : decode cX9_saved 35 = .ok (.iconst 0, 1) := by decide +kernel
theorem dX9_saved_36 : decode cX9_saved 36 = .ok (.istore 4, 2) := by decide +kernel
theorem dX9_saved_38 : decode cX9_saved 38 = .ok (.iload 4, 2) := by decide +kernel
theorem dX9_saved_40 : decode cX9_saved 40 = .ok (.bipush 12, 2) := by decide +kernel
theorem dX9_saved_42 : decode cX9_saved 42 = .ok (.if_icmp .ge 95, 3) := by decide +kernel
theorem dX9_saved_45 : decode cX9_saved 45 = .ok (.aload_n 0, 1) := by decide +kernel
theorem dX9_saved_46 : decode cX9_saved 46 = .ok (.getfield 28, 3) := by decide +kernel
theorem dX9_saved_49 : decode cX9_saved 49 = .ok (.iload_n 1, 1) := by decide +kernel
theorem dX9_saved_50 : decode cX9_saved 50 = .ok (.iaload, 1) := by decide +kernel
theorem dX9_saved_51 : decode cX9_saved 51 = .ok (.iload 4, 2) := by decide +kernel
theorem dX9_saved_53 : decode cX9_saved 53 = .ok (.if_icmp .eq 17, 3) := by decide +kernel
theorem dX9_saved_56 : decode cX9_saved 56 = .ok (.aload_n 0, 1) := by decide +kernel
theorem dX9_saved_57 : decode cX9_saved 57 = .ok (.aload_n 0, 1) := by decide +kernel
theorem dX9_saved_58 : decode cX9_saved 58 = .ok (.getfield 28, 3) := by decide +kernel
theorem dX9_saved_61 : decode cX9_saved 61 = .ok (.iload_n 1, 1) := by decide +kernel
theorem dX9_saved_62 : decode cX9_saved 62 = .ok (.iload 4, 2) := by decide +kernel
theorem dX9_saved_64 : decode cX9_saved 64 = .ok (.invokevirtual 176, 3) := by decide +kernel
theorem dX9_saved_67 : decode cX9_saved 67 = .ok (.ifCond .eq 64, 3) := by decide +kernel
theorem dX9_saved_70 : decode cX9_saved 70 = .ok (.aload_n 0, 1) := by decide +kernel
theorem dX9_saved_71 : decode cX9_saved 71 = .ok (.invokevirtual 191, 3) := by decide +kernel
theorem dX9_saved_74 : decode cX9_saved 74 = .ok (.aload_n 0, 1) := by decide +kernel
theorem dX9_saved_75 : decode cX9_saved 75 = .ok (.getfield 31, 3) := by decide +kernel
theorem dX9_saved_78 : decode cX9_saved 78 = .ok (.iload_n 1, 1) := by decide +kernel
theorem dX9_saved_79 : decode cX9_saved 79 = .ok (.iload 4, 2) := by decide +kernel
theorem dX9_saved_81 : decode cX9_saved 81 = .ok (.iastore, 1) := by decide +kernel
theorem dX9_saved_82 : decode cX9_saved 82 = .ok (.aload_n 0, 1) := by decide +kernel
theorem dX9_saved_83 : decode cX9_saved 83 = .ok (.iload_n 1, 1) := by decide +kernel
theorem dX9_saved_84 : decode cX9_saved 84 = .ok (.invokevirtual 201, 3) := by decide +kernel
theorem dX9_saved_87 : decode cX9_saved 87 = .ok (.istore 5, 2) := by decide +kernel
theorem dX9_saved_89 : decode cX9_saved 89 = .ok (.iload 5, 2) := by decide +kernel
theorem dX9_saved_91 : decode cX9_saved 91 = .ok (.bipush (-9), 2) := by decide +kernel
theorem dX9_saved_93 : decode cX9_saved 93 = .ok (.if_icmp .ne 8, 3) := by decide +kernel
theorem dX9_saved_96 : decode cX9_saved 96 = .ok (.bipush 99, 2) := by decide +kernel
theorem dX9_saved_98 : decode cX9_saved 98 = .ok (.goto 5, 3) := by decide +kernel
theorem dX9_saved_101 : decode cX9_saved 101 = .ok (.iload 5, 2) := by decide +kernel
theorem dX9_saved_103 : decode cX9_saved 103 = .ok (.istore 5, 2) := by decide +kernel
theorem dX9_saved_105 : decode cX9_saved 105 = .ok (.iload 5, 2) := by decide +kernel
theorem dX9_saved_107 : decode cX9_saved 107 = .ok (.iload_n 3, 1) := by decide +kernel
theorem dX9_saved_108 : decode cX9_saved 108 = .ok (.if_icmp .le 8, 3) := by decide +kernel
theorem dX9_saved_111 : decode cX9_saved 111 = .ok (.iload 4, 2) := by decide +kernel
theorem dX9_saved_113 : decode cX9_saved 113 = .ok (.goto 4, 3) := by decide +kernel
theorem dX9_saved_116 : decode cX9_saved 116 = .ok (.iload_n 2, 1) := by decide +kernel
theorem dX9_saved_117 : decode cX9_saved 117 = .ok (.istore_n 2, 1) := by decide +kernel
theorem dX9_saved_118 : decode cX9_saved 118 = .ok (.iload 5, 2) := by decide +kernel
theorem dX9_saved_120 : decode cX9_saved 120 = .ok (.iload_n 3, 1) := by decide +kernel
theorem dX9_saved_121 : decode cX9_saved 121 = .ok (.if_icmp .le 8, 3) := by decide +kernel
theorem dX9_saved_124 : decode cX9_saved 124 = .ok (.iload 5, 2) := by decide +kernel
theorem dX9_saved_126 : decode cX9_saved 126 = .ok (.goto 4, 3) := by decide +kernel
theorem dX9_saved_129 : decode cX9_saved 129 = .ok (.iload_n 3, 1) := by decide +kernel
theorem dX9_saved_130 : decode cX9_saved 130 = .ok (.istore_n 3, 1) := by decide +kernel
theorem dX9_saved_131 : decode cX9_saved 131 = .ok (.iinc 4 1, 3) := by decide +kernel
theorem dX9_saved_134 : decode cX9_saved 134 = .ok (.goto (-96), 3) := by decide +kernel
theorem dX9_saved_137 : decode cX9_saved 137 = .ok (.iload_n 2, 1) := by decide +kernel
theorem dX9_saved_138 : decode cX9_saved 138 = .ok (.ireturn, 1) := by decide +kernel
theorem dX9_isQuiet_0 : decode cX9_isQuiet 0 = .ok (.aload_n 0, 1) := by decide +kernel
theorem dX9_isQuiet_1 : decode cX9_isQuiet 1 = .ok (.invokevirtual 191, 3) := by decide +kernel
theorem dX9_isQuiet_4 : decode cX9_isQuiet 4 = .ok (.iconst 0, 1) := by decide +kernel
theorem dX9_isQuiet_5 : decode cX9_isQuiet 5 = .ok (.istore_n 2, 1) := by decide +kernel
theorem dX9_isQuiet_6 : decode cX9_isQuiet 6 = .ok (.iload_n 2, 1) := by decide +kernel
theorem dX9_isQuiet_7 : decode cX9_isQuiet 7 = .ok (.aload_n 0, 1) := by decide +kernel
theorem dX9_isQuiet_8 : decode cX9_isQuiet 8 = .ok (.getfield 63, 3) := by decide +kernel
theorem dX9_isQuiet_11 : decode cX9_isQuiet 11 = .ok (.if_icmp .ge 39, 3) := by decide +kernel
theorem dX9_isQuiet_14 : decode cX9_isQuiet 14 = .ok (.aload_n 0, 1) := by decide +kernel
theorem dX9_isQuiet_15 : decode cX9_isQuiet 15 = .ok (.getfield 31, 3) := by decide +kernel
theorem dX9_isQuiet_18 : decode cX9_isQuiet 18 = .ok (.bipush 6, 2) := by decide +kernel
theorem dX9_isQuiet_20 : decode cX9_isQuiet 20 = .ok (.iload_n 2, 1) := by decide +kernel
theorem dX9_isQuiet_21 : decode cX9_isQuiet 21 = .ok (.iadd, 1) := by decide +kernel
theorem dX9_isQuiet_22 : decode cX9_isQuiet 22 = .ok (.iload_n 1, 1) := by decide +kernel
theorem dX9_isQuiet_23 : decode cX9_isQuiet 23 = .ok (.iload_n 2, 1) := by decide +kernel
theorem dX9_isQuiet_24 : decode cX9_isQuiet 24 = .ok (.invokestatic 144, 3) := by decide +kernel
theorem dX9_isQuiet_27 : decode cX9_isQuiet 27 = .ok (.ifCond .eq 7, 3) := by decide +kernel
theorem dX9_isQuiet_30 : decode cX9_isQuiet 30 = .ok (.iconst 1, 1) := by decide +kernel
theorem dX9_isQuiet_31 : decode cX9_isQuiet 31 = .ok (.goto 12, 3) := by decide +kernel
theorem dX9_isQuiet_34 : decode cX9_isQuiet 34 = .ok (.aload_n 0, 1) := by decide +kernel
theorem dX9_isQuiet_35 : decode cX9_isQuiet 35 = .ok (.getfield 28, 3) := by decide +kernel
theorem dX9_isQuiet_38 : decode cX9_isQuiet 38 = .ok (.bipush 6, 2) := by decide +kernel
theorem dX9_isQuiet_40 : decode cX9_isQuiet 40 = .ok (.iload_n 2, 1) := by decide +kernel
theorem dX9_isQuiet_41 : decode cX9_isQuiet 41 = .ok (.iadd, 1) := by decide +kernel
theorem dX9_isQuiet_42 : decode cX9_isQuiet 42 = .ok (.iaload, 1) := by decide +kernel
theorem dX9_isQuiet_43 : decode cX9_isQuiet 43 = .ok (.iastore, 1) := by decide +kernel
theorem dX9_isQuiet_44 : decode cX9_isQuiet 44 = .ok (.iinc 2 1, 3) := by decide +kernel
theorem dX9_isQuiet_47 : decode cX9_isQuiet 47 = .ok (.goto (-41), 3) := by decide +kernel
theorem dX9_isQuiet_50 : decode cX9_isQuiet 50 = .ok (.iconst 0, 1) := by decide +kernel
theorem dX9_isQuiet_51 : decode cX9_isQuiet 51 = .ok (.istore_n 2, 1) := by decide +kernel
theorem dX9_isQuiet_52 : decode cX9_isQuiet 52 = .ok (.iconst 0, 1) := by decide +kernel
theorem dX9_isQuiet_53 : decode cX9_isQuiet 53 = .ok (.istore_n 3, 1) := by decide +kernel
theorem dX9_isQuiet_54 : decode cX9_isQuiet 54 = .ok (.iload_n 3, 1) := by decide +kernel
theorem dX9_isQuiet_55 : decode cX9_isQuiet 55 = .ok (.bipush 9, 2) := by decide +kernel
theorem dX9_isQuiet_57 : decode cX9_isQuiet 57 = .ok (.if_icmp .ge 20, 3) := by decide +kernel
theorem dX9_isQuiet_60 : decode cX9_isQuiet 60 = .ok (.iload_n 2, 1) := by decide +kernel
theorem dX9_isQuiet_61 : decode cX9_isQuiet 61 = .ok (.aload_n 0, 1) := by decide +kernel
theorem dX9_isQuiet_62 : decode cX9_isQuiet 62 = .ok (.aload_n 0, 1) := by decide +kernel
theorem dX9_isQuiet_63 : decode cX9_isQuiet 63 = .ok (.getfield 31, 3) := by decide +kernel
theorem dX9_isQuiet_66 : decode cX9_isQuiet 66 = .ok (.invokevirtual 155, 3) := by decide +kernel
theorem dX9_isQuiet_69 : decode cX9_isQuiet 69 = .ok (.iadd, 1) := by decide +kernel
theorem dX9_isQuiet_70 : decode cX9_isQuiet 70 = .ok (.istore_n 2, 1) := by decide +kernel
theorem dX9_isQuiet_71 : decode cX9_isQuiet 71 = .ok (.iinc 3 1, 3) := by decide +kernel
theorem dX9_isQuiet_74 : decode cX9_isQuiet 74 = .ok (.goto (-20), 3) := by decide +kernel
theorem dX9_isQuiet_77 : decode cX9_isQuiet 77 = .ok (.iload_n 2, 1) := by decide +kernel
theorem dX9_isQuiet_78 : decode cX9_isQuiet 78 = .ok (.ifCond .ne 7, 3) := by decide +kernel
theorem dX9_isQuiet_81 : decode cX9_isQuiet 81 = .ok (.iconst 1, 1) := by decide +kernel
theorem dX9_isQuiet_82 : decode cX9_isQuiet 82 = .ok (.goto 4, 3) := by decide +kernel
theorem dX9_isQuiet_85 : decode cX9_isQuiet 85 = .ok (.iconst 0, 1) := by decide +kernel
theorem dX9_isQuiet_86 : decode cX9_isQuiet 86 = .ok (.ireturn, 1) := by decide +kernel
theorem dX9_quiet_0 : decode cX9_quiet 0 = .ok (.aload_n 0, 1) := by decide +kernel
theorem dX9_quiet_1 : decode cX9_quiet 1 = .ok (.iconst 0, 1) := by decide +kernel
theorem dX9_quiet_2 : decode cX9_quiet 2 = .ok (.putfield 59, 3) := by decide +kernel
theorem dX9_quiet_5 : decode cX9_quiet 5 = .ok (.aload_n 0, 1) := by decide +kernel
theorem dX9_quiet_6 : decode cX9_quiet 6 = .ok (.aload_n 0, 1) := by decide +kernel
theorem dX9_quiet_7 : decode cX9_quiet 7 = .ok (.getfield 28, 3) := by decide +kernel
theorem dX9_quiet_10 : decode cX9_quiet 10 = .ok (.iconst 0, 1) := by decide +kernel
theorem dX9_quiet_11 : decode cX9_quiet 11 = .ok (.invokevirtual 122, 3) := by decide +kernel
theorem dX9_quiet_14 : decode cX9_quiet 14 = .ok (.istore_n 1, 1) := by decide +kernel
theorem dX9_quiet_15 : decode cX9_quiet 15 = .ok (.iload_n 1, 1) := by decide +kernel
theorem dX9_quiet_16 : decode cX9_quiet 16 = .ok (.istore_n 2, 1) := by decide +kernel
theorem dX9_quiet_17 : decode cX9_quiet 17 = .ok (.iconst 0, 1) := by decide +kernel
theorem dX9_quiet_18 : decode cX9_quiet 18 = .ok (.istore_n 3, 1) := by decide +kernel
theorem dX9_quiet_19 : decode cX9_quiet 19 = .ok (.iload_n 3, 1) := by decide +kernel
theorem dX9_quiet_20 : decode cX9_quiet 20 = .ok (.iconst 1, 1) := by decide +kernel
theorem dX9_quiet_21 : decode cX9_quiet 21 = .ok (.aload_n 0, 1) := by decide +kernel
theorem dX9_quiet_22 : decode cX9_quiet 22 = .ok (.getfield 63, 3) := by decide +kernel
theorem dX9_quiet_25 : decode cX9_quiet 25 = .ok (.ishl, 1) := by decide +kernel
theorem dX9_quiet_26 : decode cX9_quiet 26 = .ok (.if_icmp .ge 70, 3) := by decide +kernel
theorem dX9_quiet_29 : decode cX9_quiet 29 = .ok (.iload_n 3, 1) := by decide +kernel
theorem dX9_quiet_30 : decode cX9_quiet 30 = .ok (.iload_n 1, 1) := by decide +kernel
theorem dX9_quiet_31 : decode cX9_quiet 31 = .ok (.iconst (-1), 1) := by decide +kernel
theorem dX9_quiet_32 : decode cX9_quiet 32 = .ok (.ixor, 1) := by decide +kernel
theorem dX9_quiet_33 : decode cX9_quiet 33 = .ok (.iand, 1) := by decide +kernel
theorem dX9_quiet_34 : decode cX9_quiet 34 = .ok (.ifCond .ne 34, 3) := by decide +kernel
theorem dX9_quiet_37 : decode cX9_quiet 37 = .ok (.iload_n 3, 1) := by decide +kernel
theorem dX9_quiet_38 : decode cX9_quiet 38 = .ok (.invokestatic 128, 3) := by decide +kernel
theorem dX9_quiet_41 : decode cX9_quiet 41 = .ok (.iload_n 2, 1) := by decide +kernel
theorem dX9_quiet_42 : decode cX9_quiet 42 = .ok (.invokestatic 128, 3) := by decide +kernel
theorem dX9_quiet_45 : decode cX9_quiet 45 = .ok (.if_icmp .lt 19, 3) := by decide +kernel
theorem dX9_quiet_48 : decode cX9_quiet 48 = .ok (.iload_n 3, 1) := by decide +kernel
theorem dX9_quiet_49 : decode cX9_quiet 49 = .ok (.invokestatic 128, 3) := by decide +kernel
theorem dX9_quiet_52 : decode cX9_quiet 52 = .ok (.iload_n 2, 1) := by decide +kernel
theorem dX9_quiet_53 : decode cX9_quiet 53 = .ok (.invokestatic 128, 3) := by decide +kernel
theorem dX9_quiet_56 : decode cX9_quiet 56 = .ok (.if_icmp .ne 12, 3) := by decide +kernel
theorem dX9_quiet_59 : decode cX9_quiet 59 = .ok (.iload_n 3, 1) := by decide +kernel
theorem dX9_quiet_60 : decode cX9_quiet 60 = .ok (.iload_n 2, 1) := by decide +kernel
theorem dX9_quiet_61 : decode cX9_quiet 61 = .ok (.if_icmp .ge 7, 3) := by decide +kernel
theorem dX9_quiet_64 : decode cX9_quiet 64 = .ok (.iconst 1, 1) := by decide +kernel
theorem dX9_quiet_65 : decode cX9_quiet 65 = .ok (.goto 4, 3) := by decide +kernel
theorem dX9_quiet_68 : decode cX9_quiet 68 = .ok (.iconst 0, 1) := by decide +kernel
theorem dX9_quiet_69 : decode cX9_quiet 69 = .ok (.istore 4, 2) := by decide +kernel
theorem dX9_quiet_71 : decode cX9_quiet 71 = .ok (.iload 4, 2) := by decide +kernel
theorem dX9_quiet_73 : decode cX9_quiet 73 = .ok (.ifCond .eq 15, 3) := by decide +kernel
theorem dX9_quiet_76 : decode cX9_quiet 76 = .ok (.aload_n 0, 1) := by decide +kernel
theorem dX9_quiet_77 : decode cX9_quiet 77 = .ok (.iload_n 3, 1) := by decide +kernel
theorem dX9_quiet_78 : decode cX9_quiet 78 = .ok (.invokevirtual 214, 3) := by decide +kernel
theorem dX9_quiet_81 : decode cX9_quiet 81 = .ok (.ifCond .eq 7, 3) := by decide +kernel
theorem dX9_quiet_84 : decode cX9_quiet 84 = .ok (.iload_n 3, 1) := by decide +kernel
theorem dX9_quiet_85 : decode cX9_quiet 85 = .ok (.goto 4, 3) := by decide +kernel
theorem dX9_quiet_88 : decode cX9_quiet 88 = .ok (.iload_n 2, 1) := by decide +kernel
theorem dX9_quiet_89 : decode cX9_quiet 89 = .ok (.istore_n 2, 1) := by decide +kernel
theorem dX9_quiet_90 : decode cX9_quiet 90 = .ok (.iinc 3 1, 3) := by decide +kernel
theorem dX9_quiet_93 : decode cX9_quiet 93 = .ok (.goto (-74), 3) := by decide +kernel
theorem dX9_quiet_96 : decode cX9_quiet 96 = .ok (.iload_n 2, 1) := by decide +kernel
theorem dX9_quiet_97 : decode cX9_quiet 97 = .ok (.ireturn, 1) := by decide +kernel
theorem dX9_longPower_0 : decode cX9_longPower 0 = .ok (.lconst 1, 1) := by decide +kernel
theorem dX9_longPower_1 : decode cX9_longPower 1 = .ok (.lstore_n 3, 1) := by decide +kernel
theorem dX9_longPower_2 : decode cX9_longPower 2 = .ok (.iconst 0, 1) := by decide +kernel
theorem dX9_longPower_3 : decode cX9_longPower 3 = .ok (.istore 5, 2) := by decide +kernel
theorem dX9_longPower_5 : decode cX9_longPower 5 = .ok (.iload 5, 2) := by decide +kernel
theorem dX9_longPower_7 : decode cX9_longPower 7 = .ok (.iload_n 2, 1) := by decide +kernel
theorem dX9_longPower_8 : decode cX9_longPower 8 = .ok (.if_icmp .ge 13, 3) := by decide +kernel
theorem dX9_longPower_11 : decode cX9_longPower 11 = .ok (.lload_n 3, 1) := by decide +kernel
theorem dX9_longPower_12 : decode cX9_longPower 12 = .ok (.lload_n 0, 1) := by decide +kernel
theorem dX9_longPower_13 : decode cX9_longPower 13 = .ok (.lmul, 1) := by decide +kernel
theorem dX9_longPower_14 : decode cX9_longPower 14 = .ok (.lstore_n 3, 1) := by decide +kernel
theorem dX9_longPower_15 : decode cX9_longPower 15 = .ok (.iinc 5 1, 3) := by decide +kernel
theorem dX9_longPower_18 : decode cX9_longPower 18 = .ok (.goto (-13), 3) := by decide +kernel
theorem dX9_longPower_21 : decode cX9_longPower 21 = .ok (.lload_n 3, 1) := by decide +kernel
theorem dX9_longPower_22 : decode cX9_longPower 22 = .ok (.lreturn, 1) := by decide +kernel
theorem dX9_does_0 : decode cX9_does 0 = .ok (.iload_n 1, 1) := by decide +kernel
theorem dX9_does_1 : decode cX9_does 1 = .ok (.sipush 1000, 3) := by decide +kernel
theorem dX9_does_4 : decode cX9_does 4 = .ok (.idiv, 1) := by decide +kernel
theorem dX9_does_5 : decode cX9_does 5 = .ok (.istore_n 2, 1) := by decide +kernel
theorem dX9_does_6 : decode cX9_does 6 = .ok (.iload_n 1, 1) := by decide +kernel
theorem dX9_does_7 : decode cX9_does 7 = .ok (.bipush 100, 2) := by decide +kernel
theorem dX9_does_9 : decode cX9_does 9 = .ok (.idiv, 1) := by decide +kernel
theorem dX9_does_10 : decode cX9_does 10 = .ok (.bipush 10, 2) := by decide +kernel
theorem dX9_does_12 : decode cX9_does 12 = .ok (.irem, 1) := by decide +kernel
theorem dX9_does_13 : decode cX9_does 13 = .ok (.istore_n 3, 1) := by decide +kernel
theorem dX9_does_14 : decode cX9_does 14 = .ok (.iload_n 1, 1) := by decide +kernel
theorem dX9_does_15 : decode cX9_does 15 = .ok (.bipush 100, 2) := by decide +kernel
theorem dX9_does_17 : decode cX9_does 17 = .ok (.irem, 1) := by decide +kernel
theorem dX9_does_18 : decode cX9_does 18 = .ok (.istore 4, 2) := by decide +kernel
theorem dX9_does_20 : decode cX9_does 20 = .ok (.iload_n 1, 1) := by decide +kernel
theorem dX9_does_21 : decode cX9_does 21 = .ok (.ifCond .ne 14, 3) := by decide +kernel
theorem dX9_does_24 : decode cX9_does 24 = .ok (.aload_n 0, 1) := by decide +kernel
theorem dX9_does_25 : decode cX9_does 25 = .ok (.aload_n 0, 1) := by decide +kernel
theorem dX9_does_26 : decode cX9_does 26 = .ok (.getfield 31, 3) := by decide +kernel
theorem dX9_does_29 : decode cX9_does 29 = .ok (.invokevirtual 155, 3) := by decide +kernel
theorem dX9_does_32 : decode cX9_does 32 = .ok (.pop, 1) := by decide +kernel
theorem dX9_does_33 : decode cX9_does 33 = .ok (.iconst 1, 1) := by decide +kernel
theorem dX9_does_34 : decode cX9_does 34 = .ok (.ireturn, 1) := by decide +kernel
theorem dX9_does_35 : decode cX9_does 35 = .ok (.iload_n 2, 1) := by decide +kernel
theorem dX9_does_36 : decode cX9_does 36 = .ok (.iconst 1, 1) := by decide +kernel
theorem dX9_does_37 : decode cX9_does 37 = .ok (.if_icmp .ne 42, 3) := by decide +kernel
theorem dX9_does_40 : decode cX9_does 40 = .ok (.aload_n 0, 1) := by decide +kernel
theorem dX9_does_41 : decode cX9_does 41 = .ok (.iload_n 3, 1) := by decide +kernel
theorem dX9_does_42 : decode cX9_does 42 = .ok (.invokevirtual 164, 3) := by decide +kernel
theorem dX9_does_45 : decode cX9_does 45 = .ok (.ifCond .ne 34, 3) := by decide +kernel
theorem dX9_does_48 : decode cX9_does 48 = .ok (.iload 4, 2) := by decide +kernel
theorem dX9_does_50 : decode cX9_does 50 = .ok (.bipush 12, 2) := by decide +kernel
theorem dX9_does_52 : decode cX9_does 52 = .ok (.if_icmp .ge 27, 3) := by decide +kernel
theorem dX9_does_55 : decode cX9_does 55 = .ok (.aload_n 0, 1) := by decide +kernel
theorem dX9_does_56 : decode cX9_does 56 = .ok (.aload_n 0, 1) := by decide +kernel
theorem dX9_does_57 : decode cX9_does 57 = .ok (.getfield 31, 3) := by decide +kernel
theorem dX9_does_60 : decode cX9_does 60 = .ok (.iload_n 3, 1) := by decide +kernel
theorem dX9_does_61 : decode cX9_does 61 = .ok (.iload 4, 2) := by decide +kernel
theorem dX9_does_63 : decode cX9_does 63 = .ok (.invokevirtual 176, 3) := by decide +kernel
theorem dX9_does_66 : decode cX9_does 66 = .ok (.ifCond .eq 13, 3) := by decide +kernel
theorem dX9_does_69 : decode cX9_does 69 = .ok (.aload_n 0, 1) := by decide +kernel
theorem dX9_does_70 : decode cX9_does 70 = .ok (.getfield 31, 3) := by decide +kernel
theorem dX9_does_73 : decode cX9_does 73 = .ok (.iload_n 3, 1) := by decide +kernel
theorem dX9_does_74 : decode cX9_does 74 = .ok (.iload 4, 2) := by decide +kernel
theorem dX9_does_76 : decode cX9_does 76 = .ok (.iastore, 1) := by decide +kernel
theorem dX9_does_77 : decode cX9_does 77 = .ok (.iconst 1, 1) := by decide +kernel
theorem dX9_does_78 : decode cX9_does 78 = .ok (.ireturn, 1) := by decide +kernel
theorem dX9_does_79 : decode cX9_does 79 = .ok (.iload_n 2, 1) := by decide +kernel
theorem dX9_does_80 : decode cX9_does 80 = .ok (.iconst 2, 1) := by decide +kernel
theorem dX9_does_81 : decode cX9_does 81 = .ok (.if_icmp .ne 31, 3) := by decide +kernel
theorem dX9_does_84 : decode cX9_does 84 = .ok (.iload_n 3, 1) := by decide +kernel
theorem dX9_does_85 : decode cX9_does 85 = .ok (.ifCond .ne 27, 3) := by decide +kernel
theorem dX9_does_88 : decode cX9_does 88 = .ok (.iload 4, 2) := by decide +kernel
theorem dX9_does_90 : decode cX9_does 90 = .ok (.i2l, 1) := by decide +kernel
theorem dX9_does_91 : decode cX9_does 91 = .ok (.lconst 1, 1) := by decide +kernel
theorem dX9_does_92 : decode cX9_does 92 = .ok (.ldc2_w 180, 3) := by decide +kernel
theorem dX9_does_95 : decode cX9_does 95 = .ok (.invokestatic 66, 3) := by decide +kernel
theorem dX9_does_98 : decode cX9_does 98 = .ok (.ifCond .eq 14, 3) := by decide +kernel
theorem dX9_does_101 : decode cX9_does 101 = .ok (.aload_n 0, 1) := by decide +kernel
theorem dX9_does_102 : decode cX9_does 102 = .ok (.getfield 31, 3) := by decide +kernel
theorem dX9_does_105 : decode cX9_does 105 = .ok (.iload 4, 2) := by decide +kernel
theorem dX9_does_107 : decode cX9_does 107 = .ok (.invokestatic 182, 3) := by decide +kernel
theorem dX9_does_110 : decode cX9_does 110 = .ok (.iconst 1, 1) := by decide +kernel
theorem dX9_does_111 : decode cX9_does 111 = .ok (.ireturn, 1) := by decide +kernel
theorem dX9_does_112 : decode cX9_does 112 = .ok (.iload_n 2, 1) := by decide +kernel
theorem dX9_does_113 : decode cX9_does 113 = .ok (.iconst 3, 1) := by decide +kernel
theorem dX9_does_114 : decode cX9_does 114 = .ok (.if_icmp .ne 44, 3) := by decide +kernel
theorem dX9_does_117 : decode cX9_does 117 = .ok (.aload_n 0, 1) := by decide +kernel
theorem dX9_does_118 : decode cX9_does 118 = .ok (.iload_n 3, 1) := by decide +kernel
theorem dX9_does_119 : decode cX9_does 119 = .ok (.invokevirtual 168, 3) := by decide +kernel
theorem dX9_does_122 : decode cX9_does 122 = .ok (.ifCond .ne 36, 3) := by decide +kernel
theorem dX9_does_125 : decode cX9_does 125 = .ok (.iload 4, 2) := by decide +kernel
theorem dX9_does_127 : decode cX9_does 127 = .ok (.iconst 3, 1) := by decide +kernel
theorem dX9_does_128 : decode cX9_does 128 = .ok (.if_icmp .ge 30, 3) := by decide +kernel
theorem dX9_does_131 : decode cX9_does 131 = .ok (.aload_n 0, 1) := by decide +kernel
theorem dX9_does_132 : decode cX9_does 132 = .ok (.getfield 31, 3) := by decide +kernel
theorem dX9_does_135 : decode cX9_does 135 = .ok (.bipush 18, 2) := by decide +kernel
theorem dX9_does_137 : decode cX9_does 137 = .ok (.iload_n 3, 1) := by decide +kernel
theorem dX9_does_138 : decode cX9_does 138 = .ok (.iadd, 1) := by decide +kernel
theorem dX9_does_139 : decode cX9_does 139 = .ok (.iaload, 1) := by decide +kernel
theorem dX9_does_140 : decode cX9_does 140 = .ok (.iload 4, 2) := by decide +kernel
theorem dX9_does_142 : decode cX9_does 142 = .ok (.if_icmp .eq 16, 3) := by decide +kernel
theorem dX9_does_145 : decode cX9_does 145 = .ok (.aload_n 0, 1) := by decide +kernel
theorem dX9_does_146 : decode cX9_does 146 = .ok (.getfield 31, 3) := by decide +kernel
theorem dX9_does_149 : decode cX9_does 149 = .ok (.bipush 18, 2) := by decide +kernel
theorem dX9_does_151 : decode cX9_does 151 = .ok (.iload_n 3, 1) := by decide +kernel
theorem dX9_does_152 : decode cX9_does 152 = .ok (.iadd, 1) := by decide +kernel
theorem dX9_does_153 : decode cX9_does 153 = .ok (.iload 4, 2) := by decide +kernel
theorem dX9_does_155 : decode cX9_does 155 = .ok (.iastore, 1) := by decide +kernel
theorem dX9_does_156 : decode cX9_does 156 = .ok (.iconst 1, 1) := by decide +kernel
theorem dX9_does_157 : decode cX9_does 157 = .ok (.ireturn, 1) := by decide +kernel
theorem dX9_does_158 : decode cX9_does 158 = .ok (.iload_n 2, 1) := by decide +kernel
theorem dX9_does_159 : decode cX9_does 159 = .ok (.iconst 4, 1) := by decide +kernel
theorem dX9_does_160 : decode cX9_does 160 = .ok (.if_icmp .ne 35, 3) := by decide +kernel
theorem dX9_does_163 : decode cX9_does 163 = .ok (.aload_n 0, 1) := by decide +kernel
theorem dX9_does_164 : decode cX9_does 164 = .ok (.iload_n 3, 1) := by decide +kernel
theorem dX9_does_165 : decode cX9_does 165 = .ok (.invokevirtual 164, 3) := by decide +kernel
theorem dX9_does_168 : decode cX9_does 168 = .ok (.ifCond .ne 27, 3) := by decide +kernel
theorem dX9_does_171 : decode cX9_does 171 = .ok (.iload 4, 2) := by decide +kernel
theorem dX9_does_173 : decode cX9_does 173 = .ok (.iconst 4, 1) := by decide +kernel
theorem dX9_does_174 : decode cX9_does 174 = .ok (.if_icmp .ge 21, 3) := by decide +kernel
theorem dX9_does_177 : decode cX9_does 177 = .ok (.aload_n 0, 1) := by decide +kernel
theorem dX9_does_178 : decode cX9_does 178 = .ok (.getfield 31, 3) := by decide +kernel
theorem dX9_does_181 : decode cX9_does 181 = .ok (.bipush 6, 2) := by decide +kernel
theorem dX9_does_183 : decode cX9_does 183 = .ok (.iload_n 3, 1) := by decide +kernel
theorem dX9_does_184 : decode cX9_does 184 = .ok (.iadd, 1) := by decide +kernel
theorem dX9_does_185 : decode cX9_does 185 = .ok (.iaload, 1) := by decide +kernel
theorem dX9_does_186 : decode cX9_does 186 = .ok (.iload 4, 2) := by decide +kernel
theorem dX9_does_188 : decode cX9_does 188 = .ok (.if_icmp .ne 7, 3) := by decide +kernel
theorem dX9_does_191 : decode cX9_does 191 = .ok (.iconst 1, 1) := by decide +kernel
theorem dX9_does_192 : decode cX9_does 192 = .ok (.goto 4, 3) := by decide +kernel
theorem dX9_does_195 : decode cX9_does 195 = .ok (.iconst 0, 1) := by decide +kernel
theorem dX9_does_196 : decode cX9_does 196 = .ok (.ireturn, 1) := by decide +kernel
theorem dX9_judge_0 : decode cX9_judge 0 = .ok (.aload_n 0, 1) := by decide +kernel
theorem dX9_judge_1 : decode cX9_judge 1 = .ok (.iconst 0, 1) := by decide +kernel
theorem dX9_judge_2 : decode cX9_judge 2 = .ok (.putfield 59, 3) := by decide +kernel
theorem dX9_judge_5 : decode cX9_judge 5 = .ok (.iload_n 1, 1) := by decide +kernel
theorem dX9_judge_6 : decode cX9_judge 6 = .ok (.i2l, 1) := by decide +kernel
theorem dX9_judge_7 : decode cX9_judge 7 = .ok (.lconst 1, 1) := by decide +kernel
theorem dX9_judge_8 : decode cX9_judge 8 = .ok (.ldc2_w 217, 3) := by decide +kernel
theorem dX9_judge_11 : decode cX9_judge 11 = .ok (.invokestatic 66, 3) := by decide +kernel
theorem dX9_judge_14 : decode cX9_judge 14 = .ok (.ifCond .eq 20, 3) := by decide +kernel
theorem dX9_judge_17 : decode cX9_judge 17 = .ok (.lload_n 2, 1) := by decide +kernel
theorem dX9_judge_18 : decode cX9_judge 18 = .ok (.lconst 0, 1) := by decide +kernel
theorem dX9_judge_19 : decode cX9_judge 19 = .ok (.ldc2_w 219, 3) := by decide +kernel
theorem dX9_judge_22 : decode cX9_judge 22 = .ok (.iload_n 1, 1) := by decide +kernel
theorem dX9_judge_23 : decode cX9_judge 23 = .ok (.invokestatic 221, 3) := by decide +kernel
theorem dX9_judge_26 : decode cX9_judge 26 = .ok (.lconst 1, 1) := by decide +kernel
theorem dX9_judge_27 : decode cX9_judge 27 = .ok (.lsub, 1) := by decide +kernel
theorem dX9_judge_28 : decode cX9_judge 28 = .ok (.invokestatic 66, 3) := by decide +kernel
theorem dX9_judge_31 : decode cX9_judge 31 = .ok (.ifCond .ne 6, 3) := by decide +kernel
theorem dX9_judge_34 : decode cX9_judge 34 = .ok (.bipush (-2), 2) := by decide +kernel
theorem dX9_judge_36 : decode cX9_judge 36 = .ok (.ireturn, 1) := by decide +kernel
theorem dX9_judge_37 : decode cX9_judge 37 = .ok (.aload_n 0, 1) := by decide +kernel
theorem dX9_judge_38 : decode cX9_judge 38 = .ok (.invokevirtual 191, 3) := by decide +kernel
theorem dX9_judge_41 : decode cX9_judge 41 = .ok (.iconst 0, 1) := by decide +kernel
theorem dX9_judge_42 : decode cX9_judge 42 = .ok (.istore 4, 2) := by decide +kernel
theorem dX9_judge_44 : decode cX9_judge 44 = .ok (.iload 4, 2) := by decide +kernel
theorem dX9_judge_46 : decode cX9_judge 46 = .ok (.iload_n 1, 1) := by decide +kernel
theorem dX9_judge_47 : decode cX9_judge 47 = .ok (.if_icmp .ge 38, 3) := by decide +kernel
theorem dX9_judge_50 : decode cX9_judge 50 = .ok (.aload_n 0, 1) := by decide +kernel
theorem dX9_judge_51 : decode cX9_judge 51 = .ok (.lload_n 2, 1) := by decide +kernel
theorem dX9_judge_52 : decode cX9_judge 52 = .ok (.ldc2_w 219, 3) := by decide +kernel
theorem dX9_judge_55 : decode cX9_judge 55 = .ok (.iload_n 1, 1) := by decide +kernel
theorem dX9_judge_56 : decode cX9_judge 56 = .ok (.iconst 1, 1) := by decide +kernel
theorem dX9_judge_57 : decode cX9_judge 57 = .ok (.isub, 1) := by decide +kernel
theorem dX9_judge_58 : decode cX9_judge 58 = .ok (.iload 4, 2) := by decide +kernel
theorem dX9_judge_60 : decode cX9_judge 60 = .ok (.isub, 1) := by decide +kernel
theorem dX9_judge_61 : decode cX9_judge 61 = .ok (.invokestatic 221, 3) := by decide +kernel
theorem dX9_judge_64 : decode cX9_judge 64 = .ok (.ldiv, 1) := by decide +kernel
theorem dX9_judge_65 : decode cX9_judge 65 = .ok (.ldc2_w 219, 3) := by decide +kernel
theorem dX9_judge_68 : decode cX9_judge 68 = .ok (.lrem, 1) := by decide +kernel
theorem dX9_judge_69 : decode cX9_judge 69 = .ok (.l2i, 1) := by decide +kernel
theorem dX9_judge_70 : decode cX9_judge 70 = .ok (.invokevirtual 225, 3) := by decide +kernel
theorem dX9_judge_73 : decode cX9_judge 73 = .ok (.ifCond .ne 6, 3) := by decide +kernel
theorem dX9_judge_76 : decode cX9_judge 76 = .ok (.iload 4, 2) := by decide +kernel
theorem dX9_judge_78 : decode cX9_judge 78 = .ok (.ireturn, 1) := by decide +kernel
theorem dX9_judge_79 : decode cX9_judge 79 = .ok (.iinc 4 1, 3) := by decide +kernel
theorem dX9_judge_82 : decode cX9_judge 82 = .ok (.goto (-38), 3) := by decide +kernel
theorem dX9_judge_85 : decode cX9_judge 85 = .ok (.bipush (-9), 2) := by decide +kernel
theorem dX9_judge_87 : decode cX9_judge 87 = .ok (.ireturn, 1) := by decide +kernel
theorem dX9_ways_0 : decode cX9_ways 0 = .ok (.iconst 1, 1) := by decide +kernel
theorem dX9_ways_1 : decode cX9_ways 1 = .ok (.istore_n 1, 1) := by decide +kernel
theorem dX9_ways_2 : decode cX9_ways 2 = .ok (.iconst 2, 1) := by decide +kernel
theorem dX9_ways_3 : decode cX9_ways 3 = .ok (.istore_n 2, 1) := by decide +kernel
theorem dX9_ways_4 : decode cX9_ways 4 = .ok (.iload_n 2, 1) := by decide +kernel
theorem dX9_ways_5 : decode cX9_ways 5 = .ok (.iload_n 0, 1) := by decide +kernel
theorem dX9_ways_6 : decode cX9_ways 6 = .ok (.if_icmp .gt 13, 3) := by decide +kernel
theorem dX9_ways_9 : decode cX9_ways 9 = .ok (.iload_n 1, 1) := by decide +kernel
theorem dX9_ways_10 : decode cX9_ways 10 = .ok (.iload_n 2, 1) := by decide +kernel
theorem dX9_ways_11 : decode cX9_ways 11 = .ok (.imul, 1) := by decide +kernel
theorem dX9_ways_12 : decode cX9_ways 12 = .ok (.istore_n 1, 1) := by decide +kernel
theorem dX9_ways_13 : decode cX9_ways 13 = .ok (.iinc 2 1, 3) := by decide +kernel
theorem dX9_ways_16 : decode cX9_ways 16 = .ok (.goto (-12), 3) := by decide +kernel
theorem dX9_ways_19 : decode cX9_ways 19 = .ok (.iload_n 1, 1) := by decide +kernel
theorem dX9_ways_20 : decode cX9_ways 20 = .ok (.ireturn, 1) := by decide +kernel
theorem dX9_divisor_0 : decode cX9_divisor 0 = .ok (.iload_n 0, 1) := by decide +kernel
theorem dX9_divisor_1 : decode cX9_divisor 1 = .ok (.ifCond .ge 8, 3) := by decide +kernel
theorem dX9_divisor_4 : decode cX9_divisor 4 = .ok (.iload_n 0, 1) := by decide +kernel
theorem dX9_divisor_5 : decode cX9_divisor 5 = .ok (.ineg, 1) := by decide +kernel
theorem dX9_divisor_6 : decode cX9_divisor 6 = .ok (.goto 4, 3) := by decide +kernel
theorem dX9_divisor_9 : decode cX9_divisor 9 = .ok (.iload_n 0, 1) := by decide +kernel
theorem dX9_divisor_10 : decode cX9_divisor 10 = .ok (.istore_n 2, 1) := by decide +kernel
theorem dX9_divisor_11 : decode cX9_divisor 11 = .ok (.iload_n 1, 1) := by decide +kernel
theorem dX9_divisor_12 : decode cX9_divisor 12 = .ok (.istore_n 3, 1) := by decide +kernel
theorem dX9_divisor_13 : decode cX9_divisor 13 = .ok (.iload_n 3, 1) := by decide +kernel
theorem dX9_divisor_14 : decode cX9_divisor 14 = .ok (.ifCond .eq 16, 3) := by decide +kernel
theorem dX9_divisor_17 : decode cX9_divisor 17 = .ok (.iload_n 2, 1) := by decide +kernel
theorem dX9_divisor_18 : decode cX9_divisor 18 = .ok (.iload_n 3, 1) := by decide +kernel
theorem dX9_divisor_19 : decode cX9_divisor 19 = .ok (.irem, 1) := by decide +kernel
theorem dX9_divisor_20 : decode cX9_divisor 20 = .ok (.istore 4, 2) := by decide +kernel
theorem dX9_divisor_22 : decode cX9_divisor 22 = .ok (.iload_n 3, 1) := by decide +kernel
theorem dX9_divisor_23 : decode cX9_divisor 23 = .ok (.istore_n 2, 1) := by decide +kernel
theorem dX9_divisor_24 : decode cX9_divisor 24 = .ok (.iload 4, 2) := by decide +kernel
theorem dX9_divisor_26 : decode cX9_divisor 26 = .ok (.istore_n 3, 1) := by decide +kernel
theorem dX9_divisor_27 : decode cX9_divisor 27 = .ok (.goto (-14), 3) := by decide +kernel
theorem dX9_divisor_30 : decode cX9_divisor 30 = .ok (.iload_n 2, 1) := by decide +kernel
theorem dX9_divisor_31 : decode cX9_divisor 31 = .ok (.ireturn, 1) := by decide +kernel
theorem dX9_fraction_0 : decode cX9_fraction 0 = .ok (.iload_n 0, 1) := by decide +kernel
theorem dX9_fraction_1 : decode cX9_fraction 1 = .ok (.iload_n 1, 1) := by decide +kernel
theorem dX9_fraction_2 : decode cX9_fraction 2 = .ok (.invokestatic 228, 3) := by decide +kernel
theorem dX9_fraction_5 : decode cX9_fraction 5 = .ok (.istore_n 3, 1) := by decide +kernel
theorem dX9_fraction_6 : decode cX9_fraction 6 = .ok (.iload_n 2, 1) := by decide +kernel
theorem dX9_fraction_7 : decode cX9_fraction 7 = .ok (.ifCond .eq 9, 3) := by decide +kernel
theorem dX9_fraction_10 : decode cX9_fraction 10 = .ok (.iload_n 0, 1) := by decide +kernel
theorem dX9_fraction_11 : decode cX9_fraction 11 = .ok (.iload_n 3, 1) := by decide +kernel
theorem dX9_fraction_12 : decode cX9_fraction 12 = .ok (.idiv, 1) := by decide +kernel
theorem dX9_fraction_13 : decode cX9_fraction 13 = .ok (.goto 6, 3) := by decide +kernel
theorem dX9_fraction_16 : decode cX9_fraction 16 = .ok (.iload_n 1, 1) := by decide +kernel
theorem dX9_fraction_17 : decode cX9_fraction 17 = .ok (.iload_n 3, 1) := by decide +kernel
theorem dX9_fraction_18 : decode cX9_fraction 18 = .ok (.idiv, 1) := by decide +kernel
theorem dX9_fraction_19 : decode cX9_fraction 19 = .ok (.ireturn, 1) := by decide +kernel
theorem dX9_share_0 : decode cX9_share 0 = .ok (.aload_n 0, 1) := by decide +kernel
theorem dX9_share_1 : decode cX9_share 1 = .ok (.iconst 0, 1) := by decide +kernel
theorem dX9_share_2 : decode cX9_share 2 = .ok (.putfield 59, 3) := by decide +kernel
theorem dX9_share_5 : decode cX9_share 5 = .ok (.aload_n 0, 1) := by decide +kernel
theorem dX9_share_6 : decode cX9_share 6 = .ok (.iload_n 1, 1) := by decide +kernel
theorem dX9_share_7 : decode cX9_share 7 = .ok (.invokevirtual 168, 3) := by decide +kernel
theorem dX9_share_10 : decode cX9_share 10 = .ok (.ifCond .eq 5, 3) := by decide +kernel
theorem dX9_share_13 : decode cX9_share 13 = .ok (.iconst (-1), 1) := by decide +kernel
theorem dX9_share_14 : decode cX9_share 14 = .ok (.ireturn, 1) := by decide +kernel
theorem dX9_share_15 : decode cX9_share 15 = .ok (.iconst 0, 1) := by decide +kernel
theorem dX9_share_16 : decode cX9_share 16 = .ok (.istore_n 3, 1) := by decide +kernel
theorem dX9_share_17 : decode cX9_share 17 = .ok (.iload_n 3, 1) := by decide +kernel
theorem dX9_share_18 : decode cX9_share 18 = .ok (.iconst 1, 1) := by decide +kernel
theorem dX9_share_19 : decode cX9_share 19 = .ok (.aload_n 0, 1) := by decide +kernel
theorem dX9_share_20 : decode cX9_share 20 = .ok (.getfield 70, 3) := by decide +kernel
theorem dX9_share_23 : decode cX9_share 23 = .ok (.ishl, 1) := by decide +kernel
theorem dX9_share_24 : decode cX9_share 24 = .ok (.if_icmp .ge 41, 3) := by decide +kernel
theorem dX9_share_27 : decode cX9_share 27 = .ok (.aload_n 0, 1) := by decide +kernel
theorem dX9_share_28 : decode cX9_share 28 = .ok (.invokevirtual 191, 3) := by decide +kernel
theorem dX9_share_31 : decode cX9_share 31 = .ok (.aload_n 0, 1) := by decide +kernel
theorem dX9_share_32 : decode cX9_share 32 = .ok (.iload_n 3, 1) := by decide +kernel
theorem dX9_share_33 : decode cX9_share 33 = .ok (.putfield 141, 3) := by decide +kernel
theorem dX9_share_36 : decode cX9_share 36 = .ok (.aload_n 0, 1) := by decide +kernel
theorem dX9_share_37 : decode cX9_share 37 = .ok (.bipush 9, 2) := by decide +kernel
theorem dX9_share_39 : decode cX9_share 39 = .ok (.invokevirtual 194, 3) := by decide +kernel
theorem dX9_share_42 : decode cX9_share 42 = .ok (.aload_n 0, 1) := by decide +kernel
theorem dX9_share_43 : decode cX9_share 43 = .ok (.getfield 56, 3) := by decide +kernel
theorem dX9_share_46 : decode cX9_share 46 = .ok (.iload_n 3, 1) := by decide +kernel
theorem dX9_share_47 : decode cX9_share 47 = .ok (.aload_n 0, 1) := by decide +kernel
theorem dX9_share_48 : decode cX9_share 48 = .ok (.aload_n 0, 1) := by decide +kernel
theorem dX9_share_49 : decode cX9_share 49 = .ok (.getfield 31, 3) := by decide +kernel
theorem dX9_share_52 : decode cX9_share 52 = .ok (.invokevirtual 198, 3) := by decide +kernel
theorem dX9_share_55 : decode cX9_share 55 = .ok (.invokestatic 128, 3) := by decide +kernel
theorem dX9_share_58 : decode cX9_share 58 = .ok (.iastore, 1) := by decide +kernel
theorem dX9_share_59 : decode cX9_share 59 = .ok (.iinc 3 1, 3) := by decide +kernel
theorem dX9_share_62 : decode cX9_share 62 = .ok (.goto (-45), 3) := by decide +kernel
theorem dX9_share_65 : decode cX9_share 65 = .ok (.iconst 0, 1) := by decide +kernel
theorem dX9_share_66 : decode cX9_share 66 = .ok (.istore_n 3, 1) := by decide +kernel
theorem dX9_share_67 : decode cX9_share 67 = .ok (.iconst 0, 1) := by decide +kernel
theorem dX9_share_68 : decode cX9_share 68 = .ok (.istore 4, 2) := by decide +kernel
theorem dX9_share_70 : decode cX9_share 70 = .ok (.iload 4, 2) := by decide +kernel
theorem dX9_share_72 : decode cX9_share 72 = .ok (.iconst 1, 1) := by decide +kernel
theorem dX9_share_73 : decode cX9_share 73 = .ok (.aload_n 0, 1) := by decide +kernel
theorem dX9_share_74 : decode cX9_share 74 = .ok (.getfield 70, 3) := by decide +kernel
theorem dX9_share_77 : decode cX9_share 77 = .ok (.ishl, 1) := by decide +kernel
theorem dX9_share_78 : decode cX9_share 78 = .ok (.if_icmp .ge 66, 3) := by decide +kernel
theorem dX9_share_81 : decode cX9_share 81 = .ok (.iload 4, 2) := by decide +kernel
theorem dX9_share_83 : decode cX9_share 83 = .ok (.iload_n 1, 1) := by decide +kernel
theorem dX9_share_84 : decode cX9_share 84 = .ok (.invokestatic 144, 3) := by decide +kernel
theorem dX9_share_87 : decode cX9_share 87 = .ok (.ifCond .ne 51, 3) := by decide +kernel
theorem dX9_share_90 : decode cX9_share 90 = .ok (.iload 4, 2) := by decide +kernel
theorem dX9_share_92 : decode cX9_share 92 = .ok (.invokestatic 128, 3) := by decide +kernel
theorem dX9_share_95 : decode cX9_share 95 = .ok (.istore 5, 2) := by decide +kernel
theorem dX9_share_97 : decode cX9_share 97 = .ok (.iload_n 3, 1) := by decide +kernel
theorem dX9_share_98 : decode cX9_share 98 = .ok (.iload 5, 2) := by decide +kernel
theorem dX9_share_100 : decode cX9_share 100 = .ok (.invokestatic 231, 3) := by decide +kernel
theorem dX9_share_103 : decode cX9_share 103 = .ok (.aload_n 0, 1) := by decide +kernel
theorem dX9_share_104 : decode cX9_share 104 = .ok (.getfield 70, 3) := by decide +kernel
theorem dX9_share_107 : decode cX9_share 107 = .ok (.iconst 1, 1) := by decide +kernel
theorem dX9_share_108 : decode cX9_share 108 = .ok (.isub, 1) := by decide +kernel
theorem dX9_share_109 : decode cX9_share 109 = .ok (.iload 5, 2) := by decide +kernel
theorem dX9_share_111 : decode cX9_share 111 = .ok (.isub, 1) := by decide +kernel
theorem dX9_share_112 : decode cX9_share 112 = .ok (.invokestatic 231, 3) := by decide +kernel
theorem dX9_share_115 : decode cX9_share 115 = .ok (.imul, 1) := by decide +kernel
theorem dX9_share_116 : decode cX9_share 116 = .ok (.aload_n 0, 1) := by decide +kernel
theorem dX9_share_117 : decode cX9_share 117 = .ok (.getfield 56, 3) := by decide +kernel
theorem dX9_share_120 : decode cX9_share 120 = .ok (.iload 4, 2) := by decide +kernel
theorem dX9_share_122 : decode cX9_share 122 = .ok (.iaload, 1) := by decide +kernel
theorem dX9_share_123 : decode cX9_share 123 = .ok (.aload_n 0, 1) := by decide +kernel
theorem dX9_share_124 : decode cX9_share 124 = .ok (.getfield 56, 3) := by decide +kernel
theorem dX9_share_127 : decode cX9_share 127 = .ok (.iload 4, 2) := by decide +kernel
theorem dX9_share_129 : decode cX9_share 129 = .ok (.iconst 1, 1) := by decide +kernel
theorem dX9_share_130 : decode cX9_share 130 = .ok (.iload_n 1, 1) := by decide +kernel
theorem dX9_share_131 : decode cX9_share 131 = .ok (.ishl, 1) := by decide +kernel
theorem dX9_share_132 : decode cX9_share 132 = .ok (.ior, 1) := by decide +kernel
theorem dX9_share_133 : decode cX9_share 133 = .ok (.iaload, 1) := by decide +kernel
theorem dX9_share_134 : decode cX9_share 134 = .ok (.isub, 1) := by decide +kernel
theorem dX9_share_135 : decode cX9_share 135 = .ok (.imul, 1) := by decide +kernel
theorem dX9_share_136 : decode cX9_share 136 = .ok (.iadd, 1) := by decide +kernel
theorem dX9_share_137 : decode cX9_share 137 = .ok (.istore_n 3, 1) := by decide +kernel
theorem dX9_share_138 : decode cX9_share 138 = .ok (.iinc 4 1, 3) := by decide +kernel
theorem dX9_share_141 : decode cX9_share 141 = .ok (.goto (-71), 3) := by decide +kernel
theorem dX9_share_144 : decode cX9_share 144 = .ok (.iload_n 3, 1) := by decide +kernel
theorem dX9_share_145 : decode cX9_share 145 = .ok (.aload_n 0, 1) := by decide +kernel
theorem dX9_share_146 : decode cX9_share 146 = .ok (.getfield 70, 3) := by decide +kernel
theorem dX9_share_149 : decode cX9_share 149 = .ok (.invokestatic 231, 3) := by decide +kernel
theorem dX9_share_152 : decode cX9_share 152 = .ok (.iload_n 2, 1) := by decide +kernel
theorem dX9_share_153 : decode cX9_share 153 = .ok (.invokestatic 234, 3) := by decide +kernel
theorem dX9_share_156 : decode cX9_share 156 = .ok (.ireturn, 1) := by decide +kernel
theorem dX9_tell_0 : decode cX9_tell 0 = .ok (.aload_n 0, 1) := by decide +kernel
theorem dX9_tell_1 : decode cX9_tell 1 = .ok (.iconst 0, 1) := by decide +kernel
theorem dX9_tell_2 : decode cX9_tell 2 = .ok (.putfield 59, 3) := by decide +kernel
theorem dX9_tell_5 : decode cX9_tell 5 = .ok (.iload_n 1, 1) := by decide +kernel
theorem dX9_tell_6 : decode cX9_tell 6 = .ok (.i2l, 1) := by decide +kernel
theorem dX9_tell_7 : decode cX9_tell 7 = .ok (.lconst 0, 1) := by decide +kernel
theorem dX9_tell_8 : decode cX9_tell 8 = .ok (.ldc2_w 180, 3) := by decide +kernel
theorem dX9_tell_11 : decode cX9_tell 11 = .ok (.invokestatic 66, 3) := by decide +kernel
theorem dX9_tell_14 : decode cX9_tell 14 = .ok (.ifCond .eq 13, 3) := by decide +kernel
theorem dX9_tell_17 : decode cX9_tell 17 = .ok (.iload_n 2, 1) := by decide +kernel
theorem dX9_tell_18 : decode cX9_tell 18 = .ok (.i2l, 1) := by decide +kernel
theorem dX9_tell_19 : decode cX9_tell 19 = .ok (.lconst 0, 1) := by decide +kernel
theorem dX9_tell_20 : decode cX9_tell 20 = .ok (.lconst 1, 1) := by decide +kernel
theorem dX9_tell_21 : decode cX9_tell 21 = .ok (.invokestatic 66, 3) := by decide +kernel
theorem dX9_tell_24 : decode cX9_tell 24 = .ok (.ifCond .ne 6, 3) := by decide +kernel
theorem dX9_tell_27 : decode cX9_tell 27 = .ok (.bipush (-2), 2) := by decide +kernel
theorem dX9_tell_29 : decode cX9_tell 29 = .ok (.ireturn, 1) := by decide +kernel
theorem dX9_tell_30 : decode cX9_tell 30 = .ok (.aload_n 0, 1) := by decide +kernel
theorem dX9_tell_31 : decode cX9_tell 31 = .ok (.getfield 161, 3) := by decide +kernel
theorem dX9_tell_34 : decode cX9_tell 34 = .ok (.bipush 6, 2) := by decide +kernel
theorem dX9_tell_36 : decode cX9_tell 36 = .ok (.if_icmp .ne 6, 3) := by decide +kernel
theorem dX9_tell_39 : decode cX9_tell 39 = .ok (.bipush (-4), 2) := by decide +kernel
theorem dX9_tell_41 : decode cX9_tell 41 = .ok (.ireturn, 1) := by decide +kernel
theorem dX9_tell_42 : decode cX9_tell 42 = .ok (.aload_n 0, 1) := by decide +kernel
theorem dX9_tell_43 : decode cX9_tell 43 = .ok (.getfield 44, 3) := by decide +kernel
theorem dX9_tell_46 : decode cX9_tell 46 = .ok (.aload_n 0, 1) := by decide +kernel
theorem dX9_tell_47 : decode cX9_tell 47 = .ok (.getfield 161, 3) := by decide +kernel
theorem dX9_tell_50 : decode cX9_tell 50 = .ok (.iload_n 1, 1) := by decide +kernel
theorem dX9_tell_51 : decode cX9_tell 51 = .ok (.iastore, 1) := by decide +kernel
theorem dX9_tell_52 : decode cX9_tell 52 = .ok (.aload_n 0, 1) := by decide +kernel
theorem dX9_tell_53 : decode cX9_tell 53 = .ok (.getfield 47, 3) := by decide +kernel
theorem dX9_tell_56 : decode cX9_tell 56 = .ok (.aload_n 0, 1) := by decide +kernel
theorem dX9_tell_57 : decode cX9_tell 57 = .ok (.getfield 161, 3) := by decide +kernel
theorem dX9_tell_60 : decode cX9_tell 60 = .ok (.iload_n 2, 1) := by decide +kernel
theorem dX9_tell_61 : decode cX9_tell 61 = .ok (.iastore, 1) := by decide +kernel
theorem dX9_tell_62 : decode cX9_tell 62 = .ok (.aload_n 0, 1) := by decide +kernel
theorem dX9_tell_63 : decode cX9_tell 63 = .ok (.dup, 1) := by decide +kernel
theorem dX9_tell_64 : decode cX9_tell 64 = .ok (.getfield 161, 3) := by decide +kernel
theorem dX9_tell_67 : decode cX9_tell 67 = .ok (.iconst 1, 1) := by decide +kernel
theorem dX9_tell_68 : decode cX9_tell 68 = .ok (.iadd, 1) := by decide +kernel
theorem dX9_tell_69 : decode cX9_tell 69 = .ok (.putfield 161, 3) := by decide +kernel
theorem dX9_tell_72 : decode cX9_tell 72 = .ok (.aload_n 0, 1) := by decide +kernel
theorem dX9_tell_73 : decode cX9_tell 73 = .ok (.getfield 161, 3) := by decide +kernel
theorem dX9_tell_76 : decode cX9_tell 76 = .ok (.ireturn, 1) := by decide +kernel
theorem dX9_untell_0 : decode cX9_untell 0 = .ok (.aload_n 0, 1) := by decide +kernel
theorem dX9_untell_1 : decode cX9_untell 1 = .ok (.iconst 0, 1) := by decide +kernel
theorem dX9_untell_2 : decode cX9_untell 2 = .ok (.putfield 59, 3) := by decide +kernel
theorem dX9_untell_5 : decode cX9_untell 5 = .ok (.aload_n 0, 1) := by decide +kernel
theorem dX9_untell_6 : decode cX9_untell 6 = .ok (.getfield 161, 3) := by decide +kernel
theorem dX9_untell_9 : decode cX9_untell 9 = .ok (.istore_n 1, 1) := by decide +kernel
theorem dX9_untell_10 : decode cX9_untell 10 = .ok (.aload_n 0, 1) := by decide +kernel
theorem dX9_untell_11 : decode cX9_untell 11 = .ok (.iconst 0, 1) := by decide +kernel
theorem dX9_untell_12 : decode cX9_untell 12 = .ok (.putfield 161, 3) := by decide +kernel
theorem dX9_untell_15 : decode cX9_untell 15 = .ok (.iload_n 1, 1) := by decide +kernel
theorem dX9_untell_16 : decode cX9_untell 16 = .ok (.ireturn, 1) := by decide +kernel
theorem dX9_may_0 : decode cX9_may 0 = .ok (.aload_n 0, 1) := by decide +kernel
theorem dX9_may_1 : decode cX9_may 1 = .ok (.iconst 0, 1) := by decide +kernel
theorem dX9_may_2 : decode cX9_may 2 = .ok (.putfield 59, 3) := by decide +kernel
theorem dX9_may_5 : decode cX9_may 5 = .ok (.iload_n 1, 1) := by decide +kernel
theorem dX9_may_6 : decode cX9_may 6 = .ok (.i2l, 1) := by decide +kernel
theorem dX9_may_7 : decode cX9_may 7 = .ok (.lconst 0, 1) := by decide +kernel
theorem dX9_may_8 : decode cX9_may 8 = .ok (.lconst 1, 1) := by decide +kernel
theorem dX9_may_9 : decode cX9_may 9 = .ok (.invokestatic 66, 3) := by decide +kernel
theorem dX9_may_12 : decode cX9_may 12 = .ok (.ifCond .ne 6, 3) := by decide +kernel
theorem dX9_may_15 : decode cX9_may 15 = .ok (.bipush (-2), 2) := by decide +kernel
theorem dX9_may_17 : decode cX9_may 17 = .ok (.ireturn, 1) := by decide +kernel
theorem dX9_may_18 : decode cX9_may 18 = .ok (.aload_n 0, 1) := by decide +kernel
theorem dX9_may_19 : decode cX9_may 19 = .ok (.iconst 0, 1) := by decide +kernel
theorem dX9_may_20 : decode cX9_may 20 = .ok (.putfield 238, 3) := by decide +kernel
theorem dX9_may_23 : decode cX9_may 23 = .ok (.aload_n 0, 1) := by decide +kernel
theorem dX9_may_24 : decode cX9_may 24 = .ok (.bipush (-9), 2) := by decide +kernel
theorem dX9_may_26 : decode cX9_may 26 = .ok (.putfield 241, 3) := by decide +kernel
theorem dX9_may_29 : decode cX9_may 29 = .ok (.iconst 0, 1) := by decide +kernel
theorem dX9_may_30 : decode cX9_may 30 = .ok (.istore_n 2, 1) := by decide +kernel
theorem dX9_may_31 : decode cX9_may 31 = .ok (.iload_n 2, 1) := by decide +kernel
theorem dX9_may_32 : decode cX9_may 32 = .ok (.iconst 4, 1) := by decide +kernel
theorem dX9_may_33 : decode cX9_may 33 = .ok (.if_icmp .ge 155, 3) := by decide +kernel
theorem dX9_may_36 : decode cX9_may 36 = .ok (.iconst 1, 1) := by decide +kernel
theorem dX9_may_37 : decode cX9_may 37 = .ok (.istore_n 3, 1) := by decide +kernel
theorem dX9_may_38 : decode cX9_may 38 = .ok (.iload_n 3, 1) := by decide +kernel
theorem dX9_may_39 : decode cX9_may 39 = .ok (.bipush 9, 2) := by decide +kernel
theorem dX9_may_41 : decode cX9_may 41 = .ok (.if_icmp .gt 141, 3) := by decide +kernel
theorem dX9_may_44 : decode cX9_may 44 = .ok (.iload_n 2, 1) := by decide +kernel
theorem dX9_may_45 : decode cX9_may 45 = .ok (.iconst 2, 1) := by decide +kernel
theorem dX9_may_46 : decode cX9_may 46 = .ok (.if_icmp .ne 10, 3) := by decide +kernel
theorem dX9_may_49 : decode cX9_may 49 = .ok (.iload_n 3, 1) := by decide +kernel
theorem dX9_may_50 : decode cX9_may 50 = .ok (.invokestatic 115, 3) := by decide +kernel
theorem dX9_may_53 : decode cX9_may 53 = .ok (.goto 4, 3) := by decide +kernel
theorem dX9_may_56 : decode cX9_may 56 = .ok (.iload_n 3, 1) := by decide +kernel
theorem dX9_may_57 : decode cX9_may 57 = .ok (.istore 4, 2) := by decide +kernel
theorem dX9_may_59 : decode cX9_may 59 = .ok (.iconst 1, 1) := by decide +kernel
theorem dX9_may_60 : decode cX9_may 60 = .ok (.istore 5, 2) := by decide +kernel
theorem dX9_may_62 : decode cX9_may 62 = .ok (.iconst 0, 1) := by decide +kernel
theorem dX9_may_63 : decode cX9_may 63 = .ok (.istore 6, 2) := by decide +kernel
theorem dX9_may_65 : decode cX9_may 65 = .ok (.iload 6, 2) := by decide +kernel
theorem dX9_may_67 : decode cX9_may 67 = .ok (.aload_n 0, 1) := by decide +kernel
theorem dX9_may_68 : decode cX9_may 68 = .ok (.getfield 161, 3) := by decide +kernel
theorem dX9_may_71 : decode cX9_may 71 = .ok (.if_icmp .ge 57, 3) := by decide +kernel
theorem dX9_may_74 : decode cX9_may 74 = .ok (.iload 5, 2) := by decide +kernel
theorem dX9_may_76 : decode cX9_may 76 = .ok (.ifCond .eq 43, 3) := by decide +kernel
theorem dX9_may_79 : decode cX9_may 79 = .ok (.aload_n 0, 1) := by decide +kernel
theorem dX9_may_80 : decode cX9_may 80 = .ok (.getfield 44, 3) := by decide +kernel
theorem dX9_may_83 : decode cX9_may 83 = .ok (.iload 6, 2) := by decide +kernel
theorem dX9_may_85 : decode cX9_may 85 = .ok (.iaload, 1) := by decide +kernel
theorem dX9_may_86 : decode cX9_may 86 = .ok (.iload 4, 2) := by decide +kernel
theorem dX9_may_88 : decode cX9_may 88 = .ok (.if_icmp .lt 7, 3) := by decide +kernel
theorem dX9_may_91 : decode cX9_may 91 = .ok (.iconst 1, 1) := by decide +kernel
theorem dX9_may_92 : decode cX9_may 92 = .ok (.goto 4, 3) := by decide +kernel
theorem dX9_may_95 : decode cX9_may 95 = .ok (.iconst 0, 1) := by decide +kernel
theorem dX9_may_96 : decode cX9_may 96 = .ok (.aload_n 0, 1) := by decide +kernel
theorem dX9_may_97 : decode cX9_may 97 = .ok (.getfield 47, 3) := by decide +kernel
theorem dX9_may_100 : decode cX9_may 100 = .ok (.iload 6, 2) := by decide +kernel
theorem dX9_may_102 : decode cX9_may 102 = .ok (.iaload, 1) := by decide +kernel
theorem dX9_may_103 : decode cX9_may 103 = .ok (.iconst 1, 1) := by decide +kernel
theorem dX9_may_104 : decode cX9_may 104 = .ok (.if_icmp .ne 7, 3) := by decide +kernel
theorem dX9_may_107 : decode cX9_may 107 = .ok (.iconst 1, 1) := by decide +kernel
theorem dX9_may_108 : decode cX9_may 108 = .ok (.goto 4, 3) := by decide +kernel
theorem dX9_may_111 : decode cX9_may 111 = .ok (.iconst 0, 1) := by decide +kernel
theorem dX9_may_112 : decode cX9_may 112 = .ok (.if_icmp .ne 7, 3) := by decide +kernel
theorem dX9_may_115 : decode cX9_may 115 = .ok (.iconst 1, 1) := by decide +kernel
theorem dX9_may_116 : decode cX9_may 116 = .ok (.goto 4, 3) := by decide +kernel
theorem dX9_may_119 : decode cX9_may 119 = .ok (.iconst 0, 1) := by decide +kernel
theorem dX9_may_120 : decode cX9_may 120 = .ok (.istore 5, 2) := by decide +kernel
theorem dX9_may_122 : decode cX9_may 122 = .ok (.iinc 6 1, 3) := by decide +kernel
theorem dX9_may_125 : decode cX9_may 125 = .ok (.goto (-60), 3) := by decide +kernel
theorem dX9_may_128 : decode cX9_may 128 = .ok (.aload_n 0, 1) := by decide +kernel
theorem dX9_may_129 : decode cX9_may 129 = .ok (.iload 5, 2) := by decide +kernel
theorem dX9_may_131 : decode cX9_may 131 = .ok (.ifCond .eq 19, 3) := by decide +kernel
theorem dX9_may_134 : decode cX9_may 134 = .ok (.aload_n 0, 1) := by decide +kernel
theorem dX9_may_135 : decode cX9_may 135 = .ok (.getfield 238, 3) := by decide +kernel
theorem dX9_may_138 : decode cX9_may 138 = .ok (.ifCond .ne 12, 3) := by decide +kernel
theorem dX9_may_141 : decode cX9_may 141 = .ok (.bipush 10, 2) := by decide +kernel
theorem dX9_may_143 : decode cX9_may 143 = .ok (.iload_n 2, 1) := by decide +kernel
theorem dX9_may_144 : decode cX9_may 144 = .ok (.imul, 1) := by decide +kernel
theorem dX9_may_145 : decode cX9_may 145 = .ok (.iload_n 3, 1) := by decide +kernel
theorem dX9_may_146 : decode cX9_may 146 = .ok (.iadd, 1) := by decide +kernel
theorem dX9_may_147 : decode cX9_may 147 = .ok (.goto 7, 3) := by decide +kernel
theorem dX9_may_150 : decode cX9_may 150 = .ok (.aload_n 0, 1) := by decide +kernel
theorem dX9_may_151 : decode cX9_may 151 = .ok (.getfield 241, 3) := by decide +kernel
theorem dX9_may_154 : decode cX9_may 154 = .ok (.putfield 241, 3) := by decide +kernel
theorem dX9_may_157 : decode cX9_may 157 = .ok (.aload_n 0, 1) := by decide +kernel
theorem dX9_may_158 : decode cX9_may 158 = .ok (.dup, 1) := by decide +kernel
theorem dX9_may_159 : decode cX9_may 159 = .ok (.getfield 238, 3) := by decide +kernel
theorem dX9_may_162 : decode cX9_may 162 = .ok (.iload 5, 2) := by decide +kernel
theorem dX9_may_164 : decode cX9_may 164 = .ok (.ifCond .eq 7, 3) := by decide +kernel
theorem dX9_may_167 : decode cX9_may 167 = .ok (.iconst 1, 1) := by decide +kernel
theorem dX9_may_168 : decode cX9_may 168 = .ok (.goto 4, 3) := by decide +kernel
theorem dX9_may_171 : decode cX9_may 171 = .ok (.iconst 0, 1) := by decide +kernel
theorem dX9_may_172 : decode cX9_may 172 = .ok (.iadd, 1) := by decide +kernel
theorem dX9_may_173 : decode cX9_may 173 = .ok (.putfield 238, 3) := by decide +kernel
theorem dX9_may_176 : decode cX9_may 176 = .ok (.iinc 3 1, 3) := by decide +kernel
theorem dX9_may_179 : decode cX9_may 179 = .ok (.goto (-141), 3) := by decide +kernel
theorem dX9_may_182 : decode cX9_may 182 = .ok (.iinc 2 1, 3) := by decide +kernel
theorem dX9_may_185 : decode cX9_may 185 = .ok (.goto (-154), 3) := by decide +kernel
theorem dX9_may_188 : decode cX9_may 188 = .ok (.iload_n 1, 1) := by decide +kernel
theorem dX9_may_189 : decode cX9_may 189 = .ok (.ifCond .ne 10, 3) := by decide +kernel
theorem dX9_may_192 : decode cX9_may 192 = .ok (.aload_n 0, 1) := by decide +kernel
theorem dX9_may_193 : decode cX9_may 193 = .ok (.getfield 238, 3) := by decide +kernel
theorem dX9_may_196 : decode cX9_may 196 = .ok (.goto 7, 3) := by decide +kernel
theorem dX9_may_199 : decode cX9_may 199 = .ok (.aload_n 0, 1) := by decide +kernel
theorem dX9_may_200 : decode cX9_may 200 = .ok (.getfield 241, 3) := by decide +kernel
theorem dX9_may_203 : decode cX9_may 203 = .ok (.ireturn, 1) := by decide +kernel
theorem dX9_layGains_0 : decode cX9_layGains 0 = .ok (.aload_n 0, 1) := by decide +kernel
theorem dX9_layGains_1 : decode cX9_layGains 1 = .ok (.invokevirtual 191, 3) := by decide +kernel
theorem dX9_layGains_4 : decode cX9_layGains 4 = .ok (.aload_n 0, 1) := by decide +kernel
theorem dX9_layGains_5 : decode cX9_layGains 5 = .ok (.getfield 31, 3) := by decide +kernel
theorem dX9_layGains_8 : decode cX9_layGains 8 = .ok (.bipush 18, 2) := by decide +kernel
theorem dX9_layGains_10 : decode cX9_layGains 10 = .ok (.iload_n 1, 1) := by decide +kernel
theorem dX9_layGains_11 : decode cX9_layGains 11 = .ok (.iadd, 1) := by decide +kernel
theorem dX9_layGains_12 : decode cX9_layGains 12 = .ok (.iload_n 3, 1) := by decide +kernel
theorem dX9_layGains_13 : decode cX9_layGains 13 = .ok (.iconst 3, 1) := by decide +kernel
theorem dX9_layGains_14 : decode cX9_layGains 14 = .ok (.idiv, 1) := by decide +kernel
theorem dX9_layGains_15 : decode cX9_layGains 15 = .ok (.iastore, 1) := by decide +kernel
theorem dX9_layGains_16 : decode cX9_layGains 16 = .ok (.aload_n 0, 1) := by decide +kernel
theorem dX9_layGains_17 : decode cX9_layGains 17 = .ok (.getfield 31, 3) := by decide +kernel
theorem dX9_layGains_20 : decode cX9_layGains 20 = .ok (.bipush 18, 2) := by decide +kernel
theorem dX9_layGains_22 : decode cX9_layGains 22 = .ok (.iload_n 2, 1) := by decide +kernel
theorem dX9_layGains_23 : decode cX9_layGains 23 = .ok (.iadd, 1) := by decide +kernel
theorem dX9_layGains_24 : decode cX9_layGains 24 = .ok (.iload_n 3, 1) := by decide +kernel
theorem dX9_layGains_25 : decode cX9_layGains 25 = .ok (.iconst 3, 1) := by decide +kernel
theorem dX9_layGains_26 : decode cX9_layGains 26 = .ok (.irem, 1) := by decide +kernel
theorem dX9_layGains_27 : decode cX9_layGains 27 = .ok (.iastore, 1) := by decide +kernel
theorem dX9_layGains_28 : decode cX9_layGains 28 = .ok (.iconst 0, 1) := by decide +kernel
theorem dX9_layGains_29 : decode cX9_layGains 29 = .ok (.istore 4, 2) := by decide +kernel
theorem dX9_layGains_31 : decode cX9_layGains 31 = .ok (.iload 4, 2) := by decide +kernel
theorem dX9_layGains_33 : decode cX9_layGains 33 = .ok (.iconst 3, 1) := by decide +kernel
theorem dX9_layGains_34 : decode cX9_layGains 34 = .ok (.if_icmp .ge 17, 3) := by decide +kernel
theorem dX9_layGains_37 : decode cX9_layGains 37 = .ok (.aload_n 0, 1) := by decide +kernel
theorem dX9_layGains_38 : decode cX9_layGains 38 = .ok (.getfield 50, 3) := by decide +kernel
theorem dX9_layGains_41 : decode cX9_layGains 41 = .ok (.iload 4, 2) := by decide +kernel
theorem dX9_layGains_43 : decode cX9_layGains 43 = .ok (.iconst 0, 1) := by decide +kernel
theorem dX9_layGains_44 : decode cX9_layGains 44 = .ok (.iastore, 1) := by decide +kernel
theorem dX9_layGains_45 : decode cX9_layGains 45 = .ok (.iinc 4 1, 3) := by decide +kernel
theorem dX9_layGains_48 : decode cX9_layGains 48 = .ok (.goto (-17), 3) := by decide +kernel
theorem dX9_layGains_51 : decode cX9_layGains 51 = .ok (.aload_n 0, 1) := by decide +kernel
theorem dX9_layGains_52 : decode cX9_layGains 52 = .ok (.iconst 3, 1) := by decide +kernel
theorem dX9_layGains_53 : decode cX9_layGains 53 = .ok (.invokevirtual 194, 3) := by decide +kernel
theorem dX9_layGains_56 : decode cX9_layGains 56 = .ok (.aload_n 0, 1) := by decide +kernel
theorem dX9_layGains_57 : decode cX9_layGains 57 = .ok (.getfield 53, 3) := by decide +kernel
theorem dX9_layGains_60 : decode cX9_layGains 60 = .ok (.iconst 2, 1) := by decide +kernel
theorem dX9_layGains_61 : decode cX9_layGains 61 = .ok (.iload_n 3, 1) := by decide +kernel
theorem dX9_layGains_62 : decode cX9_layGains 62 = .ok (.imul, 1) := by decide +kernel
theorem dX9_layGains_63 : decode cX9_layGains 63 = .ok (.aload_n 0, 1) := by decide +kernel
theorem dX9_layGains_64 : decode cX9_layGains 64 = .ok (.getfield 50, 3) := by decide +kernel
theorem dX9_layGains_67 : decode cX9_layGains 67 = .ok (.iload_n 1, 1) := by decide +kernel
theorem dX9_layGains_68 : decode cX9_layGains 68 = .ok (.iaload, 1) := by decide +kernel
theorem dX9_layGains_69 : decode cX9_layGains 69 = .ok (.aload_n 0, 1) := by decide +kernel
theorem dX9_layGains_70 : decode cX9_layGains 70 = .ok (.getfield 28, 3) := by decide +kernel
theorem dX9_layGains_73 : decode cX9_layGains 73 = .ok (.bipush 18, 2) := by decide +kernel
theorem dX9_layGains_75 : decode cX9_layGains 75 = .ok (.iload_n 1, 1) := by decide +kernel
theorem dX9_layGains_76 : decode cX9_layGains 76 = .ok (.iadd, 1) := by decide +kernel
theorem dX9_layGains_77 : decode cX9_layGains 77 = .ok (.iaload, 1) := by decide +kernel
theorem dX9_layGains_78 : decode cX9_layGains 78 = .ok (.iload_n 3, 1) := by decide +kernel
theorem dX9_layGains_79 : decode cX9_layGains 79 = .ok (.iconst 3, 1) := by decide +kernel
theorem dX9_layGains_80 : decode cX9_layGains 80 = .ok (.idiv, 1) := by decide +kernel
theorem dX9_layGains_81 : decode cX9_layGains 81 = .ok (.if_icmp .ne 7, 3) := by decide +kernel
theorem dX9_layGains_84 : decode cX9_layGains 84 = .ok (.iconst 0, 1) := by decide +kernel
theorem dX9_layGains_85 : decode cX9_layGains 85 = .ok (.goto 4, 3) := by decide +kernel
theorem dX9_layGains_88 : decode cX9_layGains 88 = .ok (.iconst 1, 1) := by decide +kernel
theorem dX9_layGains_89 : decode cX9_layGains 89 = .ok (.isub, 1) := by decide +kernel
theorem dX9_layGains_90 : decode cX9_layGains 90 = .ok (.iastore, 1) := by decide +kernel
theorem dX9_layGains_91 : decode cX9_layGains 91 = .ok (.aload_n 0, 1) := by decide +kernel
theorem dX9_layGains_92 : decode cX9_layGains 92 = .ok (.getfield 53, 3) := by decide +kernel
theorem dX9_layGains_95 : decode cX9_layGains 95 = .ok (.iconst 2, 1) := by decide +kernel
theorem dX9_layGains_96 : decode cX9_layGains 96 = .ok (.iload_n 3, 1) := by decide +kernel
theorem dX9_layGains_97 : decode cX9_layGains 97 = .ok (.imul, 1) := by decide +kernel
theorem dX9_layGains_98 : decode cX9_layGains 98 = .ok (.iconst 1, 1) := by decide +kernel
theorem dX9_layGains_99 : decode cX9_layGains 99 = .ok (.iadd, 1) := by decide +kernel
theorem dX9_layGains_100 : decode cX9_layGains 100 = .ok (.aload_n 0, 1) := by decide +kernel
theorem dX9_layGains_101 : decode cX9_layGains 101 = .ok (.getfield 50, 3) := by decide +kernel
theorem dX9_layGains_104 : decode cX9_layGains 104 = .ok (.iload_n 2, 1) := by decide +kernel
theorem dX9_layGains_105 : decode cX9_layGains 105 = .ok (.iaload, 1) := by decide +kernel
theorem dX9_layGains_106 : decode cX9_layGains 106 = .ok (.aload_n 0, 1) := by decide +kernel
theorem dX9_layGains_107 : decode cX9_layGains 107 = .ok (.getfield 28, 3) := by decide +kernel
theorem dX9_layGains_110 : decode cX9_layGains 110 = .ok (.bipush 18, 2) := by decide +kernel
theorem dX9_layGains_112 : decode cX9_layGains 112 = .ok (.iload_n 2, 1) := by decide +kernel
theorem dX9_layGains_113 : decode cX9_layGains 113 = .ok (.iadd, 1) := by decide +kernel
theorem dX9_layGains_114 : decode cX9_layGains 114 = .ok (.iaload, 1) := by decide +kernel
theorem dX9_layGains_115 : decode cX9_layGains 115 = .ok (.iload_n 3, 1) := by decide +kernel
theorem dX9_layGains_116 : decode cX9_layGains 116 = .ok (.iconst 3, 1) := by decide +kernel
theorem dX9_layGains_117 : decode cX9_layGains 117 = .ok (.irem, 1) := by decide +kernel
theorem dX9_layGains_118 : decode cX9_layGains 118 = .ok (.if_icmp .ne 7, 3) := by decide +kernel
theorem dX9_layGains_121 : decode cX9_layGains 121 = .ok (.iconst 0, 1) := by decide +kernel
theorem dX9_layGains_122 : decode cX9_layGains 122 = .ok (.goto 4, 3) := by decide +kernel
theorem dX9_layGains_125 : decode cX9_layGains 125 = .ok (.iconst 1, 1) := by decide +kernel
theorem dX9_layGains_126 : decode cX9_layGains 126 = .ok (.isub, 1) := by decide +kernel
theorem dX9_layGains_127 : decode cX9_layGains 127 = .ok (.iastore, 1) := by decide +kernel
theorem dX9_layGains_128 : decode cX9_layGains 128 = .ok (.return_, 1) := by decide +kernel
theorem dX9_rests_0 : decode cX9_rests 0 = .ok (.aload_n 0, 1) := by decide +kernel
theorem dX9_rests_1 : decode cX9_rests 1 = .ok (.iconst 0, 1) := by decide +kernel
theorem dX9_rests_2 : decode cX9_rests 2 = .ok (.putfield 59, 3) := by decide +kernel
theorem dX9_rests_5 : decode cX9_rests 5 = .ok (.aload_n 0, 1) := by decide +kernel
theorem dX9_rests_6 : decode cX9_rests 6 = .ok (.iload_n 1, 1) := by decide +kernel
theorem dX9_rests_7 : decode cX9_rests 7 = .ok (.invokevirtual 168, 3) := by decide +kernel
theorem dX9_rests_10 : decode cX9_rests 10 = .ok (.ifCond .ne 11, 3) := by decide +kernel
theorem dX9_rests_13 : decode cX9_rests 13 = .ok (.aload_n 0, 1) := by decide +kernel
theorem dX9_rests_14 : decode cX9_rests 14 = .ok (.iload_n 2, 1) := by decide +kernel
theorem dX9_rests_15 : decode cX9_rests 15 = .ok (.invokevirtual 168, 3) := by decide +kernel
theorem dX9_rests_18 : decode cX9_rests 18 = .ok (.ifCond .eq 5, 3) := by decide +kernel
theorem dX9_rests_21 : decode cX9_rests 21 = .ok (.iconst (-1), 1) := by decide +kernel
theorem dX9_rests_22 : decode cX9_rests 22 = .ok (.ireturn, 1) := by decide +kernel
theorem dX9_rests_23 : decode cX9_rests 23 = .ok (.iload_n 1, 1) := by decide +kernel
theorem dX9_rests_24 : decode cX9_rests 24 = .ok (.iload_n 2, 1) := by decide +kernel
theorem dX9_rests_25 : decode cX9_rests 25 = .ok (.if_icmp .eq 13, 3) := by decide +kernel
theorem dX9_rests_28 : decode cX9_rests 28 = .ok (.iload_n 3, 1) := by decide +kernel
theorem dX9_rests_29 : decode cX9_rests 29 = .ok (.i2l, 1) := by decide +kernel
theorem dX9_rests_30 : decode cX9_rests 30 = .ok (.lconst 0, 1) := by decide +kernel
theorem dX9_rests_31 : decode cX9_rests 31 = .ok (.lconst 1, 1) := by decide +kernel
theorem dX9_rests_32 : decode cX9_rests 32 = .ok (.invokestatic 66, 3) := by decide +kernel
theorem dX9_rests_35 : decode cX9_rests 35 = .ok (.ifCond .ne 6, 3) := by decide +kernel
theorem dX9_rests_38 : decode cX9_rests 38 = .ok (.bipush (-2), 2) := by decide +kernel
theorem dX9_rests_40 : decode cX9_rests 40 = .ok (.ireturn, 1) := by decide +kernel
theorem dX9_rests_41 : decode cX9_rests 41 = .ok (.iconst 0, 1) := by decide +kernel
theorem dX9_rests_42 : decode cX9_rests 42 = .ok (.istore 4, 2) := by decide +kernel
theorem dX9_rests_44 : decode cX9_rests 44 = .ok (.iload 4, 2) := by decide +kernel
theorem dX9_rests_46 : decode cX9_rests 46 = .ok (.bipush 9, 2) := by decide +kernel
theorem dX9_rests_48 : decode cX9_rests 48 = .ok (.if_icmp .ge 17, 3) := by decide +kernel
theorem dX9_rests_51 : decode cX9_rests 51 = .ok (.aload_n 0, 1) := by decide +kernel
theorem dX9_rests_52 : decode cX9_rests 52 = .ok (.iload_n 1, 1) := by decide +kernel
theorem dX9_rests_53 : decode cX9_rests 53 = .ok (.iload_n 2, 1) := by decide +kernel
theorem dX9_rests_54 : decode cX9_rests 54 = .ok (.iload 4, 2) := by decide +kernel
theorem dX9_rests_56 : decode cX9_rests 56 = .ok (.invokevirtual 244, 3) := by decide +kernel
theorem dX9_rests_59 : decode cX9_rests 59 = .ok (.iinc 4 1, 3) := by decide +kernel
theorem dX9_rests_62 : decode cX9_rests 62 = .ok (.goto (-18), 3) := by decide +kernel
theorem dX9_rests_65 : decode cX9_rests 65 = .ok (.aload_n 0, 1) := by decide +kernel
theorem dX9_rests_66 : decode cX9_rests 66 = .ok (.iconst 0, 1) := by decide +kernel
theorem dX9_rests_67 : decode cX9_rests 67 = .ok (.putfield 248, 3) := by decide +kernel
theorem dX9_rests_70 : decode cX9_rests 70 = .ok (.aload_n 0, 1) := by decide +kernel
theorem dX9_rests_71 : decode cX9_rests 71 = .ok (.bipush (-9), 2) := by decide +kernel
theorem dX9_rests_73 : decode cX9_rests 73 = .ok (.putfield 251, 3) := by decide +kernel
theorem dX9_rests_76 : decode cX9_rests 76 = .ok (.iconst 0, 1) := by decide +kernel
theorem dX9_rests_77 : decode cX9_rests 77 = .ok (.istore 4, 2) := by decide +kernel
theorem dX9_rests_79 : decode cX9_rests 79 = .ok (.iload 4, 2) := by decide +kernel
theorem dX9_rests_81 : decode cX9_rests 81 = .ok (.bipush 9, 2) := by decide +kernel
theorem dX9_rests_83 : decode cX9_rests 83 = .ok (.if_icmp .ge 154, 3) := by decide +kernel
theorem dX9_rests_86 : decode cX9_rests 86 = .ok (.iconst 1, 1) := by decide +kernel
theorem dX9_rests_87 : decode cX9_rests 87 = .ok (.istore 5, 2) := by decide +kernel
theorem dX9_rests_89 : decode cX9_rests 89 = .ok (.iconst 0, 1) := by decide +kernel
theorem dX9_rests_90 : decode cX9_rests 90 = .ok (.istore 6, 2) := by decide +kernel
theorem dX9_rests_92 : decode cX9_rests 92 = .ok (.iload 6, 2) := by decide +kernel
theorem dX9_rests_94 : decode cX9_rests 94 = .ok (.iconst 3, 1) := by decide +kernel
theorem dX9_rests_95 : decode cX9_rests 95 = .ok (.if_icmp .ge 82, 3) := by decide +kernel
theorem dX9_rests_98 : decode cX9_rests 98 = .ok (.iload 5, 2) := by decide +kernel
theorem dX9_rests_100 : decode cX9_rests 100 = .ok (.ifCond .eq 68, 3) := by decide +kernel
theorem dX9_rests_103 : decode cX9_rests 103 = .ok (.aload_n 0, 1) := by decide +kernel
theorem dX9_rests_104 : decode cX9_rests 104 = .ok (.getfield 53, 3) := by decide +kernel
theorem dX9_rests_107 : decode cX9_rests 107 = .ok (.iconst 2, 1) := by decide +kernel
theorem dX9_rests_108 : decode cX9_rests 108 = .ok (.iconst 3, 1) := by decide +kernel
theorem dX9_rests_109 : decode cX9_rests 109 = .ok (.iload 6, 2) := by decide +kernel
theorem dX9_rests_111 : decode cX9_rests 111 = .ok (.imul, 1) := by decide +kernel
theorem dX9_rests_112 : decode cX9_rests 112 = .ok (.iload 4, 2) := by decide +kernel
theorem dX9_rests_114 : decode cX9_rests 114 = .ok (.iconst 3, 1) := by decide +kernel
theorem dX9_rests_115 : decode cX9_rests 115 = .ok (.irem, 1) := by decide +kernel
theorem dX9_rests_116 : decode cX9_rests 116 = .ok (.iadd, 1) := by decide +kernel
theorem dX9_rests_117 : decode cX9_rests 117 = .ok (.imul, 1) := by decide +kernel
theorem dX9_rests_118 : decode cX9_rests 118 = .ok (.iaload, 1) := by decide +kernel
theorem dX9_rests_119 : decode cX9_rests 119 = .ok (.aload_n 0, 1) := by decide +kernel
theorem dX9_rests_120 : decode cX9_rests 120 = .ok (.getfield 53, 3) := by decide +kernel
theorem dX9_rests_123 : decode cX9_rests 123 = .ok (.iconst 2, 1) := by decide +kernel
theorem dX9_rests_124 : decode cX9_rests 124 = .ok (.iload 4, 2) := by decide +kernel
theorem dX9_rests_126 : decode cX9_rests 126 = .ok (.imul, 1) := by decide +kernel
theorem dX9_rests_127 : decode cX9_rests 127 = .ok (.iaload, 1) := by decide +kernel
theorem dX9_rests_128 : decode cX9_rests 128 = .ok (.if_icmp .gt 40, 3) := by decide +kernel
theorem dX9_rests_131 : decode cX9_rests 131 = .ok (.aload_n 0, 1) := by decide +kernel
theorem dX9_rests_132 : decode cX9_rests 132 = .ok (.getfield 53, 3) := by decide +kernel
theorem dX9_rests_135 : decode cX9_rests 135 = .ok (.iconst 2, 1) := by decide +kernel
theorem dX9_rests_136 : decode cX9_rests 136 = .ok (.iload 4, 2) := by decide +kernel
theorem dX9_rests_138 : decode cX9_rests 138 = .ok (.iload 4, 2) := by decide +kernel
theorem dX9_rests_140 : decode cX9_rests 140 = .ok (.iconst 3, 1) := by decide +kernel
theorem dX9_rests_141 : decode cX9_rests 141 = .ok (.irem, 1) := by decide +kernel
theorem dX9_rests_142 : decode cX9_rests 142 = .ok (.isub, 1) := by decide +kernel
theorem dX9_rests_143 : decode cX9_rests 143 = .ok (.iload 6, 2) := by decide +kernel
theorem dX9_rests_145 : decode cX9_rests 145 = .ok (.iadd, 1) := by decide +kernel
theorem dX9_rests_146 : decode cX9_rests 146 = .ok (.imul, 1) := by decide +kernel
theorem dX9_rests_147 : decode cX9_rests 147 = .ok (.iconst 1, 1) := by decide +kernel
theorem dX9_rests_148 : decode cX9_rests 148 = .ok (.iadd, 1) := by decide +kernel
theorem dX9_rests_149 : decode cX9_rests 149 = .ok (.iaload, 1) := by decide +kernel
theorem dX9_rests_150 : decode cX9_rests 150 = .ok (.aload_n 0, 1) := by decide +kernel
theorem dX9_rests_151 : decode cX9_rests 151 = .ok (.getfield 53, 3) := by decide +kernel
theorem dX9_rests_154 : decode cX9_rests 154 = .ok (.iconst 2, 1) := by decide +kernel
theorem dX9_rests_155 : decode cX9_rests 155 = .ok (.iload 4, 2) := by decide +kernel
theorem dX9_rests_157 : decode cX9_rests 157 = .ok (.imul, 1) := by decide +kernel
theorem dX9_rests_158 : decode cX9_rests 158 = .ok (.iconst 1, 1) := by decide +kernel
theorem dX9_rests_159 : decode cX9_rests 159 = .ok (.iadd, 1) := by decide +kernel
theorem dX9_rests_160 : decode cX9_rests 160 = .ok (.iaload, 1) := by decide +kernel
theorem dX9_rests_161 : decode cX9_rests 161 = .ok (.if_icmp .gt 7, 3) := by decide +kernel
theorem dX9_rests_164 : decode cX9_rests 164 = .ok (.iconst 1, 1) := by decide +kernel
theorem dX9_rests_165 : decode cX9_rests 165 = .ok (.goto 4, 3) := by decide +kernel
theorem dX9_rests_168 : decode cX9_rests 168 = .ok (.iconst 0, 1) := by decide +kernel
theorem dX9_rests_169 : decode cX9_rests 169 = .ok (.istore 5, 2) := by decide +kernel
theorem dX9_rests_171 : decode cX9_rests 171 = .ok (.iinc 6 1, 3) := by decide +kernel
theorem dX9_rests_174 : decode cX9_rests 174 = .ok (.goto (-82), 3) := by decide +kernel
theorem dX9_rests_177 : decode cX9_rests 177 = .ok (.aload_n 0, 1) := by decide +kernel
theorem dX9_rests_178 : decode cX9_rests 178 = .ok (.iload 5, 2) := by decide +kernel
theorem dX9_rests_180 : decode cX9_rests 180 = .ok (.ifCond .eq 25, 3) := by decide +kernel
theorem dX9_rests_183 : decode cX9_rests 183 = .ok (.aload_n 0, 1) := by decide +kernel
theorem dX9_rests_184 : decode cX9_rests 184 = .ok (.getfield 248, 3) := by decide +kernel
theorem dX9_rests_187 : decode cX9_rests 187 = .ok (.ifCond .ne 18, 3) := by decide +kernel
theorem dX9_rests_190 : decode cX9_rests 190 = .ok (.bipush 10, 2) := by decide +kernel
theorem dX9_rests_192 : decode cX9_rests 192 = .ok (.iload 4, 2) := by decide +kernel
theorem dX9_rests_194 : decode cX9_rests 194 = .ok (.iconst 3, 1) := by decide +kernel
theorem dX9_rests_195 : decode cX9_rests 195 = .ok (.idiv, 1) := by decide +kernel
theorem dX9_rests_196 : decode cX9_rests 196 = .ok (.imul, 1) := by decide +kernel
theorem dX9_rests_197 : decode cX9_rests 197 = .ok (.iload 4, 2) := by decide +kernel
theorem dX9_rests_199 : decode cX9_rests 199 = .ok (.iconst 3, 1) := by decide +kernel
theorem dX9_rests_200 : decode cX9_rests 200 = .ok (.irem, 1) := by decide +kernel
theorem dX9_rests_201 : decode cX9_rests 201 = .ok (.iadd, 1) := by decide +kernel
theorem dX9_rests_202 : decode cX9_rests 202 = .ok (.goto 7, 3) := by decide +kernel
theorem dX9_rests_205 : decode cX9_rests 205 = .ok (.aload_n 0, 1) := by decide +kernel
theorem dX9_rests_206 : decode cX9_rests 206 = .ok (.getfield 251, 3) := by decide +kernel
theorem dX9_rests_209 : decode cX9_rests 209 = .ok (.putfield 251, 3) := by decide +kernel
theorem dX9_rests_212 : decode cX9_rests 212 = .ok (.aload_n 0, 1) := by decide +kernel
theorem dX9_rests_213 : decode cX9_rests 213 = .ok (.dup, 1) := by decide +kernel
theorem dX9_rests_214 : decode cX9_rests 214 = .ok (.getfield 248, 3) := by decide +kernel
theorem dX9_rests_217 : decode cX9_rests 217 = .ok (.iload 5, 2) := by decide +kernel
theorem dX9_rests_219 : decode cX9_rests 219 = .ok (.ifCond .eq 7, 3) := by decide +kernel
theorem dX9_rests_222 : decode cX9_rests 222 = .ok (.iconst 1, 1) := by decide +kernel
theorem dX9_rests_223 : decode cX9_rests 223 = .ok (.goto 4, 3) := by decide +kernel
theorem dX9_rests_226 : decode cX9_rests 226 = .ok (.iconst 0, 1) := by decide +kernel
theorem dX9_rests_227 : decode cX9_rests 227 = .ok (.iadd, 1) := by decide +kernel
theorem dX9_rests_228 : decode cX9_rests 228 = .ok (.putfield 248, 3) := by decide +kernel
theorem dX9_rests_231 : decode cX9_rests 231 = .ok (.iinc 4 1, 3) := by decide +kernel
theorem dX9_rests_234 : decode cX9_rests 234 = .ok (.goto (-155), 3) := by decide +kernel
theorem dX9_rests_237 : decode cX9_rests 237 = .ok (.iload_n 3, 1) := by decide +kernel
theorem dX9_rests_238 : decode cX9_rests 238 = .ok (.ifCond .ne 10, 3) := by decide +kernel
theorem dX9_rests_241 : decode cX9_rests 241 = .ok (.aload_n 0, 1) := by decide +kernel
theorem dX9_rests_242 : decode cX9_rests 242 = .ok (.getfield 248, 3) := by decide +kernel
theorem dX9_rests_245 : decode cX9_rests 245 = .ok (.goto 7, 3) := by decide +kernel
theorem dX9_rests_248 : decode cX9_rests 248 = .ok (.aload_n 0, 1) := by decide +kernel
theorem dX9_rests_249 : decode cX9_rests 249 = .ok (.getfield 251, 3) := by decide +kernel
theorem dX9_rests_252 : decode cX9_rests 252 = .ok (.ireturn, 1) := by decide +kernel
theorem dX9_hawks_0 : decode cX9_hawks 0 = .ok (.aload_n 0, 1) := by decide +kernel
theorem dX9_hawks_1 : decode cX9_hawks 1 = .ok (.iconst 0, 1) := by decide +kernel
theorem dX9_hawks_2 : decode cX9_hawks 2 = .ok (.putfield 59, 3) := by decide +kernel
theorem dX9_hawks_5 : decode cX9_hawks 5 = .ok (.iload_n 1, 1) := by decide +kernel
theorem dX9_hawks_6 : decode cX9_hawks 6 = .ok (.i2l, 1) := by decide +kernel
theorem dX9_hawks_7 : decode cX9_hawks 7 = .ok (.lconst 0, 1) := by decide +kernel
theorem dX9_hawks_8 : decode cX9_hawks 8 = .ok (.ldc2_w 254, 3) := by decide +kernel
theorem dX9_hawks_11 : decode cX9_hawks 11 = .ok (.invokestatic 66, 3) := by decide +kernel
theorem dX9_hawks_14 : decode cX9_hawks 14 = .ok (.ifCond .eq 15, 3) := by decide +kernel
theorem dX9_hawks_17 : decode cX9_hawks 17 = .ok (.iload_n 2, 1) := by decide +kernel
theorem dX9_hawks_18 : decode cX9_hawks 18 = .ok (.i2l, 1) := by decide +kernel
theorem dX9_hawks_19 : decode cX9_hawks 19 = .ok (.lconst 0, 1) := by decide +kernel
theorem dX9_hawks_20 : decode cX9_hawks 20 = .ok (.ldc2_w 256, 3) := by decide +kernel
theorem dX9_hawks_23 : decode cX9_hawks 23 = .ok (.invokestatic 66, 3) := by decide +kernel
theorem dX9_hawks_26 : decode cX9_hawks 26 = .ok (.ifCond .ne 6, 3) := by decide +kernel
