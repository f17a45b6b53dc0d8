theorem dX0_init_0 : decode cX0_init 0 = .ok (.aload_n 0, 1) := by decide +kernel
theorem dX0_init_1 : decode cX0_init 1 = .ok (.invokespecial 3, 3) := by decide +kernel
theorem dX0_init_4 : decode cX0_init 4 = .ok (.aload_n 0, 1) := by decide +kernel
theorem dX0_init_5 : decode cX0_init 5 = .ok (.bipush 7, 2) := by decide +kernel
theorem dX0_init_7 : decode cX0_init 7 = .ok (.newarray .int, 2) := by decide +kernel
theorem dX0_init_9 : decode cX0_init 9 = .ok (.putfield 9, 3) := by decide +kernel
theorem dX0_init_12 : decode cX0_init 12 = .ok (.return_, 1) := by decide +kernel
theorem dX0_left_0 : decode cX0_left 0 = .ok (.aload_n 0, 1) := by decide +kernel
theorem dX0_left_1 : decode cX0_left 1 = .ok (.iload_n 1, 1) := by decide +kernel
theorem dX0_left_2 : decode cX0_left 2 = .ok (.bipush 6, 2) := by decide +kernel
theorem dX0_left_4 : decode cX0_left 4 = .ok (.invokestatic 15, 3) := by decide +kernel
theorem dX0_left_7 : decode cX0_left 7 = .ok (.iload_n 3, 1) := by decide +kernel
theorem dX0_left_8 : decode cX0_left 8 = .ok (.invokevirtual 21, 3) := by decide +kernel
theorem dX0_left_11 : decode cX0_left 11 = .ok (.istore 5, 2) := by decide +kernel
theorem dX0_left_13 : decode cX0_left 13 = .ok (.iconst 0, 1) := by decide +kernel
theorem dX0_left_14 : decode cX0_left 14 = .ok (.istore 6, 2) := by decide +kernel
theorem dX0_left_16 : decode cX0_left 16 = .ok (.iconst 0, 1) := by decide +kernel
theorem dX0_left_17 : decode cX0_left 17 = .ok (.iload_n 2, 1) := by decide +kernel
theorem dX0_left_18 : decode cX0_left 18 = .ok (.invokestatic 24, 3) := by decide +kernel
theorem dX0_left_21 : decode cX0_left 21 = .ok (.istore 7, 2) := by decide +kernel
theorem dX0_left_23 : decode cX0_left 23 = .ok (.iload 7, 2) := by decide +kernel
theorem dX0_left_25 : decode cX0_left 25 = .ok (.bipush 6, 2) := by decide +kernel
theorem dX0_left_27 : decode cX0_left 27 = .ok (.if_icmp .gt 21, 3) := by decide +kernel
theorem dX0_left_30 : decode cX0_left 30 = .ok (.iload 6, 2) := by decide +kernel
theorem dX0_left_32 : decode cX0_left 32 = .ok (.aload_n 0, 1) := by decide +kernel
theorem dX0_left_33 : decode cX0_left 33 = .ok (.getfield 9, 3) := by decide +kernel
theorem dX0_left_36 : decode cX0_left 36 = .ok (.iload 7, 2) := by decide +kernel
theorem dX0_left_38 : decode cX0_left 38 = .ok (.iaload, 1) := by decide +kernel
theorem dX0_left_39 : decode cX0_left 39 = .ok (.iadd, 1) := by decide +kernel
theorem dX0_left_40 : decode cX0_left 40 = .ok (.istore 6, 2) := by decide +kernel
theorem dX0_left_42 : decode cX0_left 42 = .ok (.iinc 7 1, 3) := by decide +kernel
theorem dX0_left_45 : decode cX0_left 45 = .ok (.goto (-22), 3) := by decide +kernel
theorem dX0_left_48 : decode cX0_left 48 = .ok (.iload 6, 2) := by decide +kernel
theorem dX0_left_50 : decode cX0_left 50 = .ok (.iconst 1, 1) := by decide +kernel
theorem dX0_left_51 : decode cX0_left 51 = .ok (.iload 5, 2) := by decide +kernel
theorem dX0_left_53 : decode cX0_left 53 = .ok (.invokestatic 24, 3) := by decide +kernel
theorem dX0_left_56 : decode cX0_left 56 = .ok (.iload 4, 2) := by decide +kernel
theorem dX0_left_58 : decode cX0_left 58 = .ok (.invokestatic 27, 3) := by decide +kernel
theorem dX0_left_61 : decode cX0_left 61 = .ok (.ireturn, 1) := by decide +kernel
theorem dX0_fill_0 : decode cX0_fill 0 = .ok (.iconst 1, 1) := by decide +kernel
theorem dX0_fill_1 : decode cX0_fill 1 = .ok (.istore_n 3, 1) := by decide +kernel
theorem dX0_fill_2 : decode cX0_fill 2 = .ok (.iload_n 3, 1) := by decide +kernel
theorem dX0_fill_3 : decode cX0_fill 3 = .ok (.bipush 6, 2) := by decide +kernel
theorem dX0_fill_5 : decode cX0_fill 5 = .ok (.if_icmp .gt 16, 3) := by decide +kernel
theorem dX0_fill_8 : decode cX0_fill 8 = .ok (.aload_n 0, 1) := by decide +kernel
theorem dX0_fill_9 : decode cX0_fill 9 = .ok (.getfield 9, 3) := by decide +kernel
theorem dX0_fill_12 : decode cX0_fill 12 = .ok (.iload_n 3, 1) := by decide +kernel
theorem dX0_fill_13 : decode cX0_fill 13 = .ok (.iconst 0, 1) := by decide +kernel
theorem dX0_fill_14 : decode cX0_fill 14 = .ok (.iastore, 1) := by decide +kernel
theorem dX0_fill_15 : decode cX0_fill 15 = .ok (.iinc 3 1, 3) := by decide +kernel
theorem dX0_fill_18 : decode cX0_fill 18 = .ok (.goto (-16), 3) := by decide +kernel
theorem dX0_fill_21 : decode cX0_fill 21 = .ok (.aload_n 0, 1) := by decide +kernel
theorem dX0_fill_22 : decode cX0_fill 22 = .ok (.getfield 9, 3) := by decide +kernel
theorem dX0_fill_25 : decode cX0_fill 25 = .ok (.iconst 0, 1) := by decide +kernel
theorem dX0_fill_26 : decode cX0_fill 26 = .ok (.iconst 1, 1) := by decide +kernel
theorem dX0_fill_27 : decode cX0_fill 27 = .ok (.iastore, 1) := by decide +kernel
theorem dX0_fill_28 : decode cX0_fill 28 = .ok (.iconst 1, 1) := by decide +kernel
theorem dX0_fill_29 : decode cX0_fill 29 = .ok (.istore_n 3, 1) := by decide +kernel
theorem dX0_fill_30 : decode cX0_fill 30 = .ok (.iconst 0, 1) := by decide +kernel
theorem dX0_fill_31 : decode cX0_fill 31 = .ok (.istore 4, 2) := by decide +kernel
theorem dX0_fill_33 : decode cX0_fill 33 = .ok (.iload 4, 2) := by decide +kernel
theorem dX0_fill_35 : decode cX0_fill 35 = .ok (.iload_n 1, 1) := by decide +kernel
theorem dX0_fill_36 : decode cX0_fill 36 = .ok (.if_icmp .ge 70, 3) := by decide +kernel
theorem dX0_fill_39 : decode cX0_fill 39 = .ok (.bipush 6, 2) := by decide +kernel
theorem dX0_fill_41 : decode cX0_fill 41 = .ok (.istore 5, 2) := by decide +kernel
theorem dX0_fill_43 : decode cX0_fill 43 = .ok (.iload 5, 2) := by decide +kernel
theorem dX0_fill_45 : decode cX0_fill 45 = .ok (.ifCond .le 40, 3) := by decide +kernel
theorem dX0_fill_48 : decode cX0_fill 48 = .ok (.aload_n 0, 1) := by decide +kernel
theorem dX0_fill_49 : decode cX0_fill 49 = .ok (.getfield 9, 3) := by decide +kernel
theorem dX0_fill_52 : decode cX0_fill 52 = .ok (.iload 5, 2) := by decide +kernel
theorem dX0_fill_54 : decode cX0_fill 54 = .ok (.aload_n 0, 1) := by decide +kernel
theorem dX0_fill_55 : decode cX0_fill 55 = .ok (.getfield 9, 3) := by decide +kernel
theorem dX0_fill_58 : decode cX0_fill 58 = .ok (.iload 5, 2) := by decide +kernel
theorem dX0_fill_60 : decode cX0_fill 60 = .ok (.iaload, 1) := by decide +kernel
theorem dX0_fill_61 : decode cX0_fill 61 = .ok (.iload_n 2, 1) := by decide +kernel
theorem dX0_fill_62 : decode cX0_fill 62 = .ok (.imul, 1) := by decide +kernel
theorem dX0_fill_63 : decode cX0_fill 63 = .ok (.aload_n 0, 1) := by decide +kernel
theorem dX0_fill_64 : decode cX0_fill 64 = .ok (.getfield 9, 3) := by decide +kernel
theorem dX0_fill_67 : decode cX0_fill 67 = .ok (.iload 5, 2) := by decide +kernel
theorem dX0_fill_69 : decode cX0_fill 69 = .ok (.iconst 1, 1) := by decide +kernel
theorem dX0_fill_70 : decode cX0_fill 70 = .ok (.isub, 1) := by decide +kernel
theorem dX0_fill_71 : decode cX0_fill 71 = .ok (.iaload, 1) := by decide +kernel
theorem dX0_fill_72 : decode cX0_fill 72 = .ok (.bipush 10, 2) := by decide +kernel
theorem dX0_fill_74 : decode cX0_fill 74 = .ok (.iload_n 2, 1) := by decide +kernel
theorem dX0_fill_75 : decode cX0_fill 75 = .ok (.isub, 1) := by decide +kernel
theorem dX0_fill_76 : decode cX0_fill 76 = .ok (.imul, 1) := by decide +kernel
theorem dX0_fill_77 : decode cX0_fill 77 = .ok (.iadd, 1) := by decide +kernel
theorem dX0_fill_78 : decode cX0_fill 78 = .ok (.iastore, 1) := by decide +kernel
theorem dX0_fill_79 : decode cX0_fill 79 = .ok (.iinc 5 (-1), 3) := by decide +kernel
theorem dX0_fill_82 : decode cX0_fill 82 = .ok (.goto (-39), 3) := by decide +kernel
theorem dX0_fill_85 : decode cX0_fill 85 = .ok (.aload_n 0, 1) := by decide +kernel
theorem dX0_fill_86 : decode cX0_fill 86 = .ok (.getfield 9, 3) := by decide +kernel
theorem dX0_fill_89 : decode cX0_fill 89 = .ok (.iconst 0, 1) := by decide +kernel
theorem dX0_fill_90 : decode cX0_fill 90 = .ok (.dup2, 1) := by decide +kernel
theorem dX0_fill_91 : decode cX0_fill 91 = .ok (.iaload, 1) := by decide +kernel
theorem dX0_fill_92 : decode cX0_fill 92 = .ok (.iload_n 2, 1) := by decide +kernel
theorem dX0_fill_93 : decode cX0_fill 93 = .ok (.imul, 1) := by decide +kernel
theorem dX0_fill_94 : decode cX0_fill 94 = .ok (.iastore, 1) := by decide +kernel
theorem dX0_fill_95 : decode cX0_fill 95 = .ok (.iload_n 3, 1) := by decide +kernel
theorem dX0_fill_96 : decode cX0_fill 96 = .ok (.bipush 10, 2) := by decide +kernel
theorem dX0_fill_98 : decode cX0_fill 98 = .ok (.imul, 1) := by decide +kernel
theorem dX0_fill_99 : decode cX0_fill 99 = .ok (.istore_n 3, 1) := by decide +kernel
theorem dX0_fill_100 : decode cX0_fill 100 = .ok (.iinc 4 1, 3) := by decide +kernel
theorem dX0_fill_103 : decode cX0_fill 103 = .ok (.goto (-70), 3) := by decide +kernel
theorem dX0_fill_106 : decode cX0_fill 106 = .ok (.iload_n 3, 1) := by decide +kernel
theorem dX0_fill_107 : decode cX0_fill 107 = .ok (.ireturn, 1) := by decide +kernel
theorem dX1_init_0 : decode cX1_init 0 = .ok (.aload_n 0, 1) := by decide +kernel
theorem dX1_init_1 : decode cX1_init 1 = .ok (.invokespecial 5, 3) := by decide +kernel
theorem dX1_init_4 : decode cX1_init 4 = .ok (.aload_n 0, 1) := by decide +kernel
theorem dX1_init_5 : decode cX1_init 5 = .ok (.bipush 23, 2) := by decide +kernel
theorem dX1_init_7 : decode cX1_init 7 = .ok (.newarray .int, 2) := by decide +kernel
theorem dX1_init_9 : decode cX1_init 9 = .ok (.putfield 11, 3) := by decide +kernel
theorem dX1_init_12 : decode cX1_init 12 = .ok (.aload_n 0, 1) := by decide +kernel
theorem dX1_init_13 : decode cX1_init 13 = .ok (.iconst 3, 1) := by decide +kernel
theorem dX1_init_14 : decode cX1_init 14 = .ok (.newarray .int, 2) := by decide +kernel
theorem dX1_init_16 : decode cX1_init 16 = .ok (.putfield 15, 3) := by decide +kernel
theorem dX1_init_19 : decode cX1_init 19 = .ok (.aload_n 0, 1) := by decide +kernel
theorem dX1_init_20 : decode cX1_init 20 = .ok (.aload_n 1, 1) := by decide +kernel
theorem dX1_init_21 : decode cX1_init 21 = .ok (.putfield 18, 3) := by decide +kernel
theorem dX1_init_24 : decode cX1_init 24 = .ok (.return_, 1) := by decide +kernel
theorem dX1_begin_0 : decode cX1_begin 0 = .ok (.iconst 0, 1) := by decide +kernel
theorem dX1_begin_1 : decode cX1_begin 1 = .ok (.istore_n 1, 1) := by decide +kernel
theorem dX1_begin_2 : decode cX1_begin 2 = .ok (.iload_n 1, 1) := by decide +kernel
theorem dX1_begin_3 : decode cX1_begin 3 = .ok (.aload_n 0, 1) := by decide +kernel
theorem dX1_begin_4 : decode cX1_begin 4 = .ok (.getfield 18, 3) := by decide +kernel
theorem dX1_begin_7 : decode cX1_begin 7 = .ok (.getfield 22, 3) := by decide +kernel
theorem dX1_begin_10 : decode cX1_begin 10 = .ok (.if_icmp .ge 46, 3) := by decide +kernel
theorem dX1_begin_13 : decode cX1_begin 13 = .ok (.aload_n 0, 1) := by decide +kernel
theorem dX1_begin_14 : decode cX1_begin 14 = .ok (.getfield 11, 3) := by decide +kernel
theorem dX1_begin_17 : decode cX1_begin 17 = .ok (.iconst 0, 1) := by decide +kernel
theorem dX1_begin_18 : decode cX1_begin 18 = .ok (.iload_n 1, 1) := by decide +kernel
theorem dX1_begin_19 : decode cX1_begin 19 = .ok (.iadd, 1) := by decide +kernel
theorem dX1_begin_20 : decode cX1_begin 20 = .ok (.aload_n 0, 1) := by decide +kernel
theorem dX1_begin_21 : decode cX1_begin 21 = .ok (.getfield 18, 3) := by decide +kernel
theorem dX1_begin_24 : decode cX1_begin 24 = .ok (.getfield 28, 3) := by decide +kernel
theorem dX1_begin_27 : decode cX1_begin 27 = .ok (.iload_n 1, 1) := by decide +kernel
theorem dX1_begin_28 : decode cX1_begin 28 = .ok (.iaload, 1) := by decide +kernel
theorem dX1_begin_29 : decode cX1_begin 29 = .ok (.iastore, 1) := by decide +kernel
theorem dX1_begin_30 : decode cX1_begin 30 = .ok (.aload_n 0, 1) := by decide +kernel
theorem dX1_begin_31 : decode cX1_begin 31 = .ok (.getfield 11, 3) := by decide +kernel
theorem dX1_begin_34 : decode cX1_begin 34 = .ok (.bipush 6, 2) := by decide +kernel
theorem dX1_begin_36 : decode cX1_begin 36 = .ok (.iload_n 1, 1) := by decide +kernel
theorem dX1_begin_37 : decode cX1_begin 37 = .ok (.iadd, 1) := by decide +kernel
theorem dX1_begin_38 : decode cX1_begin 38 = .ok (.iconst 0, 1) := by decide +kernel
theorem dX1_begin_39 : decode cX1_begin 39 = .ok (.iastore, 1) := by decide +kernel
theorem dX1_begin_40 : decode cX1_begin 40 = .ok (.aload_n 0, 1) := by decide +kernel
theorem dX1_begin_41 : decode cX1_begin 41 = .ok (.getfield 11, 3) := by decide +kernel
theorem dX1_begin_44 : decode cX1_begin 44 = .ok (.bipush 12, 2) := by decide +kernel
theorem dX1_begin_46 : decode cX1_begin 46 = .ok (.iload_n 1, 1) := by decide +kernel
theorem dX1_begin_47 : decode cX1_begin 47 = .ok (.iadd, 1) := by decide +kernel
theorem dX1_begin_48 : decode cX1_begin 48 = .ok (.iconst 0, 1) := by decide +kernel
theorem dX1_begin_49 : decode cX1_begin 49 = .ok (.iastore, 1) := by decide +kernel
theorem dX1_begin_50 : decode cX1_begin 50 = .ok (.iinc 1 1, 3) := by decide +kernel
theorem dX1_begin_53 : decode cX1_begin 53 = .ok (.goto (-51), 3) := by decide +kernel
theorem dX1_begin_56 : decode cX1_begin 56 = .ok (.iconst 0, 1) := by decide +kernel
theorem dX1_begin_57 : decode cX1_begin 57 = .ok (.istore_n 1, 1) := by decide +kernel
theorem dX1_begin_58 : decode cX1_begin 58 = .ok (.iload_n 1, 1) := by decide +kernel
theorem dX1_begin_59 : decode cX1_begin 59 = .ok (.aload_n 0, 1) := by decide +kernel
theorem dX1_begin_60 : decode cX1_begin 60 = .ok (.getfield 18, 3) := by decide +kernel
theorem dX1_begin_63 : decode cX1_begin 63 = .ok (.getfield 31, 3) := by decide +kernel
theorem dX1_begin_66 : decode cX1_begin 66 = .ok (.if_icmp .ge 27, 3) := by decide +kernel
theorem dX1_begin_69 : decode cX1_begin 69 = .ok (.aload_n 0, 1) := by decide +kernel
theorem dX1_begin_70 : decode cX1_begin 70 = .ok (.getfield 11, 3) := by decide +kernel
theorem dX1_begin_73 : decode cX1_begin 73 = .ok (.bipush 18, 2) := by decide +kernel
theorem dX1_begin_75 : decode cX1_begin 75 = .ok (.iload_n 1, 1) := by decide +kernel
theorem dX1_begin_76 : decode cX1_begin 76 = .ok (.iadd, 1) := by decide +kernel
theorem dX1_begin_77 : decode cX1_begin 77 = .ok (.aload_n 0, 1) := by decide +kernel
theorem dX1_begin_78 : decode cX1_begin 78 = .ok (.getfield 18, 3) := by decide +kernel
theorem dX1_begin_81 : decode cX1_begin 81 = .ok (.getfield 34, 3) := by decide +kernel
theorem dX1_begin_84 : decode cX1_begin 84 = .ok (.iload_n 1, 1) := by decide +kernel
theorem dX1_begin_85 : decode cX1_begin 85 = .ok (.iaload, 1) := by decide +kernel
theorem dX1_begin_86 : decode cX1_begin 86 = .ok (.iastore, 1) := by decide +kernel
theorem dX1_begin_87 : decode cX1_begin 87 = .ok (.iinc 1 1, 3) := by decide +kernel
theorem dX1_begin_90 : decode cX1_begin 90 = .ok (.goto (-32), 3) := by decide +kernel
theorem dX1_begin_93 : decode cX1_begin 93 = .ok (.aload_n 0, 1) := by decide +kernel
theorem dX1_begin_94 : decode cX1_begin 94 = .ok (.getfield 11, 3) := by decide +kernel
theorem dX1_begin_97 : decode cX1_begin 97 = .ok (.bipush 21, 2) := by decide +kernel
theorem dX1_begin_99 : decode cX1_begin 99 = .ok (.aload_n 0, 1) := by decide +kernel
theorem dX1_begin_100 : decode cX1_begin 100 = .ok (.getfield 18, 3) := by decide +kernel
theorem dX1_begin_103 : decode cX1_begin 103 = .ok (.getfield 37, 3) := by decide +kernel
theorem dX1_begin_106 : decode cX1_begin 106 = .ok (.iastore, 1) := by decide +kernel
theorem dX1_begin_107 : decode cX1_begin 107 = .ok (.aload_n 0, 1) := by decide +kernel
theorem dX1_begin_108 : decode cX1_begin 108 = .ok (.getfield 11, 3) := by decide +kernel
theorem dX1_begin_111 : decode cX1_begin 111 = .ok (.bipush 22, 2) := by decide +kernel
theorem dX1_begin_113 : decode cX1_begin 113 = .ok (.iconst 0, 1) := by decide +kernel
theorem dX1_begin_114 : decode cX1_begin 114 = .ok (.iastore, 1) := by decide +kernel
theorem dX1_begin_115 : decode cX1_begin 115 = .ok (.return_, 1) := by decide +kernel
theorem dX1_beLike_0 : decode cX1_beLike 0 = .ok (.aload_n 1, 1) := by decide +kernel
theorem dX1_beLike_1 : decode cX1_beLike 1 = .ok (.getfield 11, 3) := by decide +kernel
theorem dX1_beLike_4 : decode cX1_beLike 4 = .ok (.iconst 0, 1) := by decide +kernel
theorem dX1_beLike_5 : decode cX1_beLike 5 = .ok (.aload_n 0, 1) := by decide +kernel
theorem dX1_beLike_6 : decode cX1_beLike 6 = .ok (.getfield 11, 3) := by decide +kernel
theorem dX1_beLike_9 : decode cX1_beLike 9 = .ok (.iconst 0, 1) := by decide +kernel
theorem dX1_beLike_10 : decode cX1_beLike 10 = .ok (.bipush 23, 2) := by decide +kernel
theorem dX1_beLike_12 : decode cX1_beLike 12 = .ok (.invokestatic 40, 3) := by decide +kernel
theorem dX1_beLike_15 : decode cX1_beLike 15 = .ok (.iconst 0, 1) := by decide +kernel
theorem dX1_beLike_16 : decode cX1_beLike 16 = .ok (.istore_n 2, 1) := by decide +kernel
theorem dX1_beLike_17 : decode cX1_beLike 17 = .ok (.iload_n 2, 1) := by decide +kernel
theorem dX1_beLike_18 : decode cX1_beLike 18 = .ok (.iconst 3, 1) := by decide +kernel
theorem dX1_beLike_19 : decode cX1_beLike 19 = .ok (.if_icmp .ge 16, 3) := by decide +kernel
theorem dX1_beLike_22 : decode cX1_beLike 22 = .ok (.aload_n 0, 1) := by decide +kernel
theorem dX1_beLike_23 : decode cX1_beLike 23 = .ok (.getfield 15, 3) := by decide +kernel
theorem dX1_beLike_26 : decode cX1_beLike 26 = .ok (.iload_n 2, 1) := by decide +kernel
theorem dX1_beLike_27 : decode cX1_beLike 27 = .ok (.iconst 0, 1) := by decide +kernel
theorem dX1_beLike_28 : decode cX1_beLike 28 = .ok (.iastore, 1) := by decide +kernel
theorem dX1_beLike_29 : decode cX1_beLike 29 = .ok (.iinc 2 1, 3) := by decide +kernel
theorem dX1_beLike_32 : decode cX1_beLike 32 = .ok (.goto (-15), 3) := by decide +kernel
theorem dX1_beLike_35 : decode cX1_beLike 35 = .ok (.return_, 1) := by decide +kernel
theorem dX1_holeOf_0 : decode cX1_holeOf 0 = .ok (.aload_n 0, 1) := by decide +kernel
theorem dX1_holeOf_1 : decode cX1_holeOf 1 = .ok (.getfield 11, 3) := by decide +kernel
theorem dX1_holeOf_4 : decode cX1_holeOf 4 = .ok (.iconst 0, 1) := by decide +kernel
theorem dX1_holeOf_5 : decode cX1_holeOf 5 = .ok (.iload_n 1, 1) := by decide +kernel
theorem dX1_holeOf_6 : decode cX1_holeOf 6 = .ok (.iadd, 1) := by decide +kernel
theorem dX1_holeOf_7 : decode cX1_holeOf 7 = .ok (.iaload, 1) := by decide +kernel
theorem dX1_holeOf_8 : decode cX1_holeOf 8 = .ok (.ireturn, 1) := by decide +kernel
theorem dX1_waitedOf_0 : decode cX1_waitedOf 0 = .ok (.aload_n 0, 1) := by decide +kernel
theorem dX1_waitedOf_1 : decode cX1_waitedOf 1 = .ok (.getfield 11, 3) := by decide +kernel
theorem dX1_waitedOf_4 : decode cX1_waitedOf 4 = .ok (.bipush 6, 2) := by decide +kernel
theorem dX1_waitedOf_6 : decode cX1_waitedOf 6 = .ok (.iload_n 1, 1) := by decide +kernel
theorem dX1_waitedOf_7 : decode cX1_waitedOf 7 = .ok (.iadd, 1) := by decide +kernel
theorem dX1_waitedOf_8 : decode cX1_waitedOf 8 = .ok (.iaload, 1) := by decide +kernel
theorem dX1_waitedOf_9 : decode cX1_waitedOf 9 = .ok (.ireturn, 1) := by decide +kernel
theorem dX1_fateOf_0 : decode cX1_fateOf 0 = .ok (.aload_n 0, 1) := by decide +kernel
theorem dX1_fateOf_1 : decode cX1_fateOf 1 = .ok (.getfield 11, 3) := by decide +kernel
theorem dX1_fateOf_4 : decode cX1_fateOf 4 = .ok (.bipush 12, 2) := by decide +kernel
theorem dX1_fateOf_6 : decode cX1_fateOf 6 = .ok (.iload_n 1, 1) := by decide +kernel
theorem dX1_fateOf_7 : decode cX1_fateOf 7 = .ok (.iadd, 1) := by decide +kernel
theorem dX1_fateOf_8 : decode cX1_fateOf 8 = .ok (.iaload, 1) := by decide +kernel
theorem dX1_fateOf_9 : decode cX1_fateOf 9 = .ok (.ireturn, 1) := by decide +kernel
theorem dX1_rowOf_0 : decode cX1_rowOf 0 = .ok (.aload_n 0, 1) := by decide +kernel
theorem dX1_rowOf_1 : decode cX1_rowOf 1 = .ok (.getfield 11, 3) := by decide +kernel
theorem dX1_rowOf_4 : decode cX1_rowOf 4 = .ok (.bipush 18, 2) := by decide +kernel
theorem dX1_rowOf_6 : decode cX1_rowOf 6 = .ok (.iload_n 1, 1) := by decide +kernel
theorem dX1_rowOf_7 : decode cX1_rowOf 7 = .ok (.iadd, 1) := by decide +kernel
theorem dX1_rowOf_8 : decode cX1_rowOf 8 = .ok (.iaload, 1) := by decide +kernel
theorem dX1_rowOf_9 : decode cX1_rowOf 9 = .ok (.ireturn, 1) := by decide +kernel
theorem dX1_grain_0 : decode cX1_grain 0 = .ok (.aload_n 0, 1) := by decide +kernel
theorem dX1_grain_1 : decode cX1_grain 1 = .ok (.getfield 11, 3) := by decide +kernel
theorem dX1_grain_4 : decode cX1_grain 4 = .ok (.bipush 21, 2) := by decide +kernel
theorem dX1_grain_6 : decode cX1_grain 6 = .ok (.iaload, 1) := by decide +kernel
theorem dX1_grain_7 : decode cX1_grain 7 = .ok (.ireturn, 1) := by decide +kernel
theorem dX1_theDay_0 : decode cX1_theDay 0 = .ok (.aload_n 0, 1) := by decide +kernel
theorem dX1_theDay_1 : decode cX1_theDay 1 = .ok (.getfield 11, 3) := by decide +kernel
theorem dX1_theDay_4 : decode cX1_theDay 4 = .ok (.bipush 22, 2) := by decide +kernel
theorem dX1_theDay_6 : decode cX1_theDay 6 = .ok (.iaload, 1) := by decide +kernel
theorem dX1_theDay_7 : decode cX1_theDay 7 = .ok (.ireturn, 1) := by decide +kernel
theorem dX1_who_0 : decode cX1_who 0 = .ok (.iconst 0, 1) := by decide +kernel
theorem dX1_who_1 : decode cX1_who 1 = .ok (.istore_n 2, 1) := by decide +kernel
theorem dX1_who_2 : decode cX1_who 2 = .ok (.iconst 0, 1) := by decide +kernel
theorem dX1_who_3 : decode cX1_who 3 = .ok (.istore_n 3, 1) := by decide +kernel
theorem dX1_who_4 : decode cX1_who 4 = .ok (.iload_n 3, 1) := by decide +kernel
theorem dX1_who_5 : decode cX1_who 5 = .ok (.aload_n 0, 1) := by decide +kernel
theorem dX1_who_6 : decode cX1_who 6 = .ok (.getfield 18, 3) := by decide +kernel
theorem dX1_who_9 : decode cX1_who 9 = .ok (.getfield 22, 3) := by decide +kernel
theorem dX1_who_12 : decode cX1_who 12 = .ok (.if_icmp .ge 28, 3) := by decide +kernel
theorem dX1_who_15 : decode cX1_who 15 = .ok (.aload_n 0, 1) := by decide +kernel
theorem dX1_who_16 : decode cX1_who 16 = .ok (.getfield 11, 3) := by decide +kernel
theorem dX1_who_19 : decode cX1_who 19 = .ok (.bipush 12, 2) := by decide +kernel
theorem dX1_who_21 : decode cX1_who 21 = .ok (.iload_n 3, 1) := by decide +kernel
theorem dX1_who_22 : decode cX1_who 22 = .ok (.iadd, 1) := by decide +kernel
theorem dX1_who_23 : decode cX1_who 23 = .ok (.iaload, 1) := by decide +kernel
theorem dX1_who_24 : decode cX1_who 24 = .ok (.iload_n 1, 1) := by decide +kernel
theorem dX1_who_25 : decode cX1_who 25 = .ok (.if_icmp .ne 9, 3) := by decide +kernel
theorem dX1_who_28 : decode cX1_who 28 = .ok (.iload_n 2, 1) := by decide +kernel
theorem dX1_who_29 : decode cX1_who 29 = .ok (.iconst 1, 1) := by decide +kernel
theorem dX1_who_30 : decode cX1_who 30 = .ok (.iload_n 3, 1) := by decide +kernel
theorem dX1_who_31 : decode cX1_who 31 = .ok (.ishl, 1) := by decide +kernel
theorem dX1_who_32 : decode cX1_who 32 = .ok (.ior, 1) := by decide +kernel
theorem dX1_who_33 : decode cX1_who 33 = .ok (.istore_n 2, 1) := by decide +kernel
theorem dX1_who_34 : decode cX1_who 34 = .ok (.iinc 3 1, 3) := by decide +kernel
theorem dX1_who_37 : decode cX1_who 37 = .ok (.goto (-33), 3) := by decide +kernel
theorem dX1_who_40 : decode cX1_who 40 = .ok (.iload_n 2, 1) := by decide +kernel
theorem dX1_who_41 : decode cX1_who 41 = .ok (.ireturn, 1) := by decide +kernel
theorem dX1_lost_0 : decode cX1_lost 0 = .ok (.aload_n 0, 1) := by decide +kernel
theorem dX1_lost_1 : decode cX1_lost 1 = .ok (.iconst 2, 1) := by decide +kernel
theorem dX1_lost_2 : decode cX1_lost 2 = .ok (.invokevirtual 46, 3) := by decide +kernel
theorem dX1_lost_5 : decode cX1_lost 5 = .ok (.aload_n 0, 1) := by decide +kernel
theorem dX1_lost_6 : decode cX1_lost 6 = .ok (.iconst 3, 1) := by decide +kernel
theorem dX1_lost_7 : decode cX1_lost 7 = .ok (.invokevirtual 46, 3) := by decide +kernel
theorem dX1_lost_10 : decode cX1_lost 10 = .ok (.ior, 1) := by decide +kernel
theorem dX1_lost_11 : decode cX1_lost 11 = .ok (.invokestatic 50, 3) := by decide +kernel
theorem dX1_lost_14 : decode cX1_lost 14 = .ok (.ireturn, 1) := by decide +kernel
theorem dX1_whoIsIn_0 : decode cX1_whoIsIn 0 = .ok (.iconst 0, 1) := by decide +kernel
theorem dX1_whoIsIn_1 : decode cX1_whoIsIn 1 = .ok (.istore_n 2, 1) := by decide +kernel
theorem dX1_whoIsIn_2 : decode cX1_whoIsIn 2 = .ok (.iconst 0, 1) := by decide +kernel
theorem dX1_whoIsIn_3 : decode cX1_whoIsIn 3 = .ok (.istore_n 3, 1) := by decide +kernel
theorem dX1_whoIsIn_4 : decode cX1_whoIsIn 4 = .ok (.iload_n 3, 1) := by decide +kernel
theorem dX1_whoIsIn_5 : decode cX1_whoIsIn 5 = .ok (.aload_n 0, 1) := by decide +kernel
theorem dX1_whoIsIn_6 : decode cX1_whoIsIn 6 = .ok (.getfield 18, 3) := by decide +kernel
theorem dX1_whoIsIn_9 : decode cX1_whoIsIn 9 = .ok (.getfield 22, 3) := by decide +kernel
theorem dX1_whoIsIn_12 : decode cX1_whoIsIn 12 = .ok (.if_icmp .ge 49, 3) := by decide +kernel
theorem dX1_whoIsIn_15 : decode cX1_whoIsIn 15 = .ok (.aload_n 0, 1) := by decide +kernel
theorem dX1_whoIsIn_16 : decode cX1_whoIsIn 16 = .ok (.getfield 11, 3) := by decide +kernel
theorem dX1_whoIsIn_19 : decode cX1_whoIsIn 19 = .ok (.bipush 12, 2) := by decide +kernel
theorem dX1_whoIsIn_21 : decode cX1_whoIsIn 21 = .ok (.iload_n 3, 1) := by decide +kernel
theorem dX1_whoIsIn_22 : decode cX1_whoIsIn 22 = .ok (.iadd, 1) := by decide +kernel
theorem dX1_whoIsIn_23 : decode cX1_whoIsIn 23 = .ok (.iaload, 1) := by decide +kernel
theorem dX1_whoIsIn_24 : decode cX1_whoIsIn 24 = .ok (.istore 4, 2) := by decide +kernel
theorem dX1_whoIsIn_26 : decode cX1_whoIsIn 26 = .ok (.aload_n 0, 1) := by decide +kernel
theorem dX1_whoIsIn_27 : decode cX1_whoIsIn 27 = .ok (.getfield 11, 3) := by decide +kernel
theorem dX1_whoIsIn_30 : decode cX1_whoIsIn 30 = .ok (.iconst 0, 1) := by decide +kernel
theorem dX1_whoIsIn_31 : decode cX1_whoIsIn 31 = .ok (.iload_n 3, 1) := by decide +kernel
theorem dX1_whoIsIn_32 : decode cX1_whoIsIn 32 = .ok (.iadd, 1) := by decide +kernel
theorem dX1_whoIsIn_33 : decode cX1_whoIsIn 33 = .ok (.iaload, 1) := by decide +kernel
theorem dX1_whoIsIn_34 : decode cX1_whoIsIn 34 = .ok (.iload_n 1, 1) := by decide +kernel
theorem dX1_whoIsIn_35 : decode cX1_whoIsIn 35 = .ok (.if_icmp .ne 20, 3) := by decide +kernel
theorem dX1_whoIsIn_38 : decode cX1_whoIsIn 38 = .ok (.iload 4, 2) := by decide +kernel
theorem dX1_whoIsIn_40 : decode cX1_whoIsIn 40 = .ok (.ifCond .eq 9, 3) := by decide +kernel
theorem dX1_whoIsIn_43 : decode cX1_whoIsIn 43 = .ok (.iload 4, 2) := by decide +kernel
theorem dX1_whoIsIn_45 : decode cX1_whoIsIn 45 = .ok (.iconst 2, 1) := by decide +kernel
theorem dX1_whoIsIn_46 : decode cX1_whoIsIn 46 = .ok (.if_icmp .ne 9, 3) := by decide +kernel
theorem dX1_whoIsIn_49 : decode cX1_whoIsIn 49 = .ok (.iload_n 2, 1) := by decide +kernel
theorem dX1_whoIsIn_50 : decode cX1_whoIsIn 50 = .ok (.iconst 1, 1) := by decide +kernel
theorem dX1_whoIsIn_51 : decode cX1_whoIsIn 51 = .ok (.iload_n 3, 1) := by decide +kernel
theorem dX1_whoIsIn_52 : decode cX1_whoIsIn 52 = .ok (.ishl, 1) := by decide +kernel
theorem dX1_whoIsIn_53 : decode cX1_whoIsIn 53 = .ok (.ior, 1) := by decide +kernel
theorem dX1_whoIsIn_54 : decode cX1_whoIsIn 54 = .ok (.istore_n 2, 1) := by decide +kernel
theorem dX1_whoIsIn_55 : decode cX1_whoIsIn 55 = .ok (.iinc 3 1, 3) := by decide +kernel
theorem dX1_whoIsIn_58 : decode cX1_whoIsIn 58 = .ok (.goto (-54), 3) := by decide +kernel
theorem dX1_whoIsIn_61 : decode cX1_whoIsIn 61 = .ok (.iload_n 2, 1) := by decide +kernel
theorem dX1_whoIsIn_62 : decode cX1_whoIsIn 62 = .ok (.ireturn, 1) := by decide +kernel
theorem dX1_pairs_0 : decode cX1_pairs 0 = .ok (.aload_n 0, 1) := by decide +kernel
theorem dX1_pairs_1 : decode cX1_pairs 1 = .ok (.iconst 2, 1) := by decide +kernel
theorem dX1_pairs_2 : decode cX1_pairs 2 = .ok (.invokevirtual 46, 3) := by decide +kernel
theorem dX1_pairs_5 : decode cX1_pairs 5 = .ok (.istore_n 1, 1) := by decide +kernel
theorem dX1_pairs_6 : decode cX1_pairs 6 = .ok (.iconst 0, 1) := by decide +kernel
theorem dX1_pairs_7 : decode cX1_pairs 7 = .ok (.istore_n 2, 1) := by decide +kernel
theorem dX1_pairs_8 : decode cX1_pairs 8 = .ok (.iconst 0, 1) := by decide +kernel
theorem dX1_pairs_9 : decode cX1_pairs 9 = .ok (.istore_n 3, 1) := by decide +kernel
theorem dX1_pairs_10 : decode cX1_pairs 10 = .ok (.iload_n 3, 1) := by decide +kernel
theorem dX1_pairs_11 : decode cX1_pairs 11 = .ok (.bipush 12, 2) := by decide +kernel
theorem dX1_pairs_13 : decode cX1_pairs 13 = .ok (.if_icmp .ge 29, 3) := by decide +kernel
theorem dX1_pairs_16 : decode cX1_pairs 16 = .ok (.aload_n 0, 1) := by decide +kernel
theorem dX1_pairs_17 : decode cX1_pairs 17 = .ok (.iload_n 3, 1) := by decide +kernel
theorem dX1_pairs_18 : decode cX1_pairs 18 = .ok (.invokevirtual 55, 3) := by decide +kernel
theorem dX1_pairs_21 : decode cX1_pairs 21 = .ok (.iload_n 1, 1) := by decide +kernel
theorem dX1_pairs_22 : decode cX1_pairs 22 = .ok (.iand, 1) := by decide +kernel
theorem dX1_pairs_23 : decode cX1_pairs 23 = .ok (.invokestatic 50, 3) := by decide +kernel
theorem dX1_pairs_26 : decode cX1_pairs 26 = .ok (.iconst 2, 1) := by decide +kernel
theorem dX1_pairs_27 : decode cX1_pairs 27 = .ok (.if_icmp .lt 9, 3) := by decide +kernel
theorem dX1_pairs_30 : decode cX1_pairs 30 = .ok (.iload_n 2, 1) := by decide +kernel
theorem dX1_pairs_31 : decode cX1_pairs 31 = .ok (.iconst 1, 1) := by decide +kernel
theorem dX1_pairs_32 : decode cX1_pairs 32 = .ok (.iload_n 3, 1) := by decide +kernel
theorem dX1_pairs_33 : decode cX1_pairs 33 = .ok (.ishl, 1) := by decide +kernel
theorem dX1_pairs_34 : decode cX1_pairs 34 = .ok (.ior, 1) := by decide +kernel
theorem dX1_pairs_35 : decode cX1_pairs 35 = .ok (.istore_n 2, 1) := by decide +kernel
theorem dX1_pairs_36 : decode cX1_pairs 36 = .ok (.iinc 3 1, 3) := by decide +kernel
theorem dX1_pairs_39 : decode cX1_pairs 39 = .ok (.goto (-29), 3) := by decide +kernel
theorem dX1_pairs_42 : decode cX1_pairs 42 = .ok (.iload_n 2, 1) := by decide +kernel
theorem dX1_pairs_43 : decode cX1_pairs 43 = .ok (.ireturn, 1) := by decide +kernel
theorem dX1_daysLeft_0 : decode cX1_daysLeft 0 = .ok (.aload_n 0, 1) := by decide +kernel
theorem dX1_daysLeft_1 : decode cX1_daysLeft 1 = .ok (.getfield 18, 3) := by decide +kernel
theorem dX1_daysLeft_4 : decode cX1_daysLeft 4 = .ok (.getfield 58, 3) := by decide +kernel
theorem dX1_daysLeft_7 : decode cX1_daysLeft 7 = .ok (.iload_n 1, 1) := by decide +kernel
theorem dX1_daysLeft_8 : decode cX1_daysLeft 8 = .ok (.iaload, 1) := by decide +kernel
theorem dX1_daysLeft_9 : decode cX1_daysLeft 9 = .ok (.aload_n 0, 1) := by decide +kernel
theorem dX1_daysLeft_10 : decode cX1_daysLeft 10 = .ok (.getfield 11, 3) := by decide +kernel
theorem dX1_daysLeft_13 : decode cX1_daysLeft 13 = .ok (.bipush 6, 2) := by decide +kernel
theorem dX1_daysLeft_15 : decode cX1_daysLeft 15 = .ok (.iload_n 1, 1) := by decide +kernel
theorem dX1_daysLeft_16 : decode cX1_daysLeft 16 = .ok (.iadd, 1) := by decide +kernel
theorem dX1_daysLeft_17 : decode cX1_daysLeft 17 = .ok (.iaload, 1) := by decide +kernel
theorem dX1_daysLeft_18 : decode cX1_daysLeft 18 = .ok (.isub, 1) := by decide +kernel
theorem dX1_daysLeft_19 : decode cX1_daysLeft 19 = .ok (.istore_n 2, 1) := by decide +kernel
theorem dX1_daysLeft_20 : decode cX1_daysLeft 20 = .ok (.aload_n 0, 1) := by decide +kernel
theorem dX1_daysLeft_21 : decode cX1_daysLeft 21 = .ok (.getfield 18, 3) := by decide +kernel
theorem dX1_daysLeft_24 : decode cX1_daysLeft 24 = .ok (.getfield 61, 3) := by decide +kernel
theorem dX1_daysLeft_27 : decode cX1_daysLeft 27 = .ok (.iload_n 1, 1) := by decide +kernel
theorem dX1_daysLeft_28 : decode cX1_daysLeft 28 = .ok (.iaload, 1) := by decide +kernel
theorem dX1_daysLeft_29 : decode cX1_daysLeft 29 = .ok (.iconst 3, 1) := by decide +kernel
theorem dX1_daysLeft_30 : decode cX1_daysLeft 30 = .ok (.if_icmp .ne 68, 3) := by decide +kernel
theorem dX1_daysLeft_33 : decode cX1_daysLeft 33 = .ok (.aload_n 0, 1) := by decide +kernel
theorem dX1_daysLeft_34 : decode cX1_daysLeft 34 = .ok (.getfield 11, 3) := by decide +kernel
theorem dX1_daysLeft_37 : decode cX1_daysLeft 37 = .ok (.iconst 0, 1) := by decide +kernel
theorem dX1_daysLeft_38 : decode cX1_daysLeft 38 = .ok (.iload_n 1, 1) := by decide +kernel
theorem dX1_daysLeft_39 : decode cX1_daysLeft 39 = .ok (.iadd, 1) := by decide +kernel
theorem dX1_daysLeft_40 : decode cX1_daysLeft 40 = .ok (.iaload, 1) := by decide +kernel
theorem dX1_daysLeft_41 : decode cX1_daysLeft 41 = .ok (.istore_n 3, 1) := by decide +kernel
theorem dX1_daysLeft_42 : decode cX1_daysLeft 42 = .ok (.iconst 0, 1) := by decide +kernel
theorem dX1_daysLeft_43 : decode cX1_daysLeft 43 = .ok (.istore 4, 2) := by decide +kernel
theorem dX1_daysLeft_45 : decode cX1_daysLeft 45 = .ok (.iload 4, 2) := by decide +kernel
theorem dX1_daysLeft_47 : decode cX1_daysLeft 47 = .ok (.aload_n 0, 1) := by decide +kernel
theorem dX1_daysLeft_48 : decode cX1_daysLeft 48 = .ok (.getfield 18, 3) := by decide +kernel
theorem dX1_daysLeft_51 : decode cX1_daysLeft 51 = .ok (.getfield 22, 3) := by decide +kernel
theorem dX1_daysLeft_54 : decode cX1_daysLeft 54 = .ok (.if_icmp .ge 44, 3) := by decide +kernel
theorem dX1_daysLeft_57 : decode cX1_daysLeft 57 = .ok (.iload 4, 2) := by decide +kernel
theorem dX1_daysLeft_59 : decode cX1_daysLeft 59 = .ok (.iload_n 1, 1) := by decide +kernel
theorem dX1_daysLeft_60 : decode cX1_daysLeft 60 = .ok (.if_icmp .eq 32, 3) := by decide +kernel
theorem dX1_daysLeft_63 : decode cX1_daysLeft 63 = .ok (.aload_n 0, 1) := by decide +kernel
theorem dX1_daysLeft_64 : decode cX1_daysLeft 64 = .ok (.getfield 11, 3) := by decide +kernel
theorem dX1_daysLeft_67 : decode cX1_daysLeft 67 = .ok (.bipush 12, 2) := by decide +kernel
theorem dX1_daysLeft_69 : decode cX1_daysLeft 69 = .ok (.iload 4, 2) := by decide +kernel
theorem dX1_daysLeft_71 : decode cX1_daysLeft 71 = .ok (.iadd, 1) := by decide +kernel
theorem dX1_daysLeft_72 : decode cX1_daysLeft 72 = .ok (.iaload, 1) := by decide +kernel
theorem dX1_daysLeft_73 : decode cX1_daysLeft 73 = .ok (.ifCond .ne 19, 3) := by decide +kernel
theorem dX1_daysLeft_76 : decode cX1_daysLeft 76 = .ok (.aload_n 0, 1) := by decide +kernel
theorem dX1_daysLeft_77 : decode cX1_daysLeft 77 = .ok (.getfield 11, 3) := by decide +kernel
theorem dX1_daysLeft_80 : decode cX1_daysLeft 80 = .ok (.iconst 0, 1) := by decide +kernel
theorem dX1_daysLeft_81 : decode cX1_daysLeft 81 = .ok (.iload 4, 2) := by decide +kernel
theorem dX1_daysLeft_83 : decode cX1_daysLeft 83 = .ok (.iadd, 1) := by decide +kernel
theorem dX1_daysLeft_84 : decode cX1_daysLeft 84 = .ok (.iaload, 1) := by decide +kernel
theorem dX1_daysLeft_85 : decode cX1_daysLeft 85 = .ok (.iload_n 3, 1) := by decide +kernel
theorem dX1_daysLeft_86 : decode cX1_daysLeft 86 = .ok (.if_icmp .ne 6, 3) := by decide +kernel
theorem dX1_daysLeft_89 : decode cX1_daysLeft 89 = .ok (.iinc 2 1, 3) := by decide +kernel
theorem dX1_daysLeft_92 : decode cX1_daysLeft 92 = .ok (.iinc 4 1, 3) := by decide +kernel
theorem dX1_daysLeft_95 : decode cX1_daysLeft 95 = .ok (.goto (-50), 3) := by decide +kernel
theorem dX1_daysLeft_98 : decode cX1_daysLeft 98 = .ok (.iload_n 2, 1) := by decide +kernel
theorem dX1_daysLeft_99 : decode cX1_daysLeft 99 = .ok (.ifCond .ge 7, 3) := by decide +kernel
theorem dX1_daysLeft_102 : decode cX1_daysLeft 102 = .ok (.iconst 0, 1) := by decide +kernel
theorem dX1_daysLeft_103 : decode cX1_daysLeft 103 = .ok (.goto 4, 3) := by decide +kernel
theorem dX1_daysLeft_106 : decode cX1_daysLeft 106 = .ok (.iload_n 2, 1) := by decide +kernel
theorem dX1_daysLeft_107 : decode cX1_daysLeft 107 = .ok (.ireturn, 1) := by decide +kernel
theorem dX1_canPut_0 : decode cX1_canPut 0 = .ok (.aload_n 0, 1) := by decide +kernel
theorem dX1_canPut_1 : decode cX1_canPut 1 = .ok (.getfield 18, 3) := by decide +kernel
theorem dX1_canPut_4 : decode cX1_canPut 4 = .ok (.iload_n 1, 1) := by decide +kernel
theorem dX1_canPut_5 : decode cX1_canPut 5 = .ok (.invokevirtual 64, 3) := by decide +kernel
theorem dX1_canPut_8 : decode cX1_canPut 8 = .ok (.ifCond .eq 50, 3) := by decide +kernel
theorem dX1_canPut_11 : decode cX1_canPut 11 = .ok (.iload_n 2, 1) := by decide +kernel
theorem dX1_canPut_12 : decode cX1_canPut 12 = .ok (.invokestatic 68, 3) := by decide +kernel
theorem dX1_canPut_15 : decode cX1_canPut 15 = .ok (.ifCond .eq 43, 3) := by decide +kernel
theorem dX1_canPut_18 : decode cX1_canPut 18 = .ok (.aload_n 0, 1) := by decide +kernel
theorem dX1_canPut_19 : decode cX1_canPut 19 = .ok (.getfield 11, 3) := by decide +kernel
theorem dX1_canPut_22 : decode cX1_canPut 22 = .ok (.bipush 12, 2) := by decide +kernel
theorem dX1_canPut_24 : decode cX1_canPut 24 = .ok (.iload_n 1, 1) := by decide +kernel
theorem dX1_canPut_25 : decode cX1_canPut 25 = .ok (.iadd, 1) := by decide +kernel
theorem dX1_canPut_26 : decode cX1_canPut 26 = .ok (.iaload, 1) := by decide +kernel
theorem dX1_canPut_27 : decode cX1_canPut 27 = .ok (.ifCond .ne 31, 3) := by decide +kernel
theorem dX1_canPut_30 : decode cX1_canPut 30 = .ok (.aload_n 0, 1) := by decide +kernel
theorem dX1_canPut_31 : decode cX1_canPut 31 = .ok (.getfield 11, 3) := by decide +kernel
theorem dX1_canPut_34 : decode cX1_canPut 34 = .ok (.iconst 0, 1) := by decide +kernel
theorem dX1_canPut_35 : decode cX1_canPut 35 = .ok (.iload_n 1, 1) := by decide +kernel
theorem dX1_canPut_36 : decode cX1_canPut 36 = .ok (.iadd, 1) := by decide +kernel
theorem dX1_canPut_37 : decode cX1_canPut 37 = .ok (.iaload, 1) := by decide +kernel
theorem dX1_canPut_38 : decode cX1_canPut 38 = .ok (.iload_n 2, 1) := by decide +kernel
theorem dX1_canPut_39 : decode cX1_canPut 39 = .ok (.if_icmp .eq 19, 3) := by decide +kernel
theorem dX1_canPut_42 : decode cX1_canPut 42 = .ok (.aload_n 0, 1) := by decide +kernel
theorem dX1_canPut_43 : decode cX1_canPut 43 = .ok (.iload_n 2, 1) := by decide +kernel
theorem dX1_canPut_44 : decode cX1_canPut 44 = .ok (.invokevirtual 55, 3) := by decide +kernel
theorem dX1_canPut_47 : decode cX1_canPut 47 = .ok (.invokestatic 50, 3) := by decide +kernel
theorem dX1_canPut_50 : decode cX1_canPut 50 = .ok (.iconst 2, 1) := by decide +kernel
theorem dX1_canPut_51 : decode cX1_canPut 51 = .ok (.if_icmp .ge 7, 3) := by decide +kernel
theorem dX1_canPut_54 : decode cX1_canPut 54 = .ok (.iconst 1, 1) := by decide +kernel
theorem dX1_canPut_55 : decode cX1_canPut 55 = .ok (.goto 4, 3) := by decide +kernel
theorem dX1_canPut_58 : decode cX1_canPut 58 = .ok (.iconst 0, 1) := by decide +kernel
theorem dX1_canPut_59 : decode cX1_canPut 59 = .ok (.ireturn, 1) := by decide +kernel
theorem dX1_moveTo_0 : decode cX1_moveTo 0 = .ok (.aload_n 0, 1) := by decide +kernel
theorem dX1_moveTo_1 : decode cX1_moveTo 1 = .ok (.getfield 11, 3) := by decide +kernel
theorem dX1_moveTo_4 : decode cX1_moveTo 4 = .ok (.iconst 0, 1) := by decide +kernel
theorem dX1_moveTo_5 : decode cX1_moveTo 5 = .ok (.iload_n 1, 1) := by decide +kernel
theorem dX1_moveTo_6 : decode cX1_moveTo 6 = .ok (.iadd, 1) := by decide +kernel
theorem dX1_moveTo_7 : decode cX1_moveTo 7 = .ok (.iload_n 2, 1) := by decide +kernel
theorem dX1_moveTo_8 : decode cX1_moveTo 8 = .ok (.iastore, 1) := by decide +kernel
theorem dX1_moveTo_9 : decode cX1_moveTo 9 = .ok (.return_, 1) := by decide +kernel
theorem dX1_canSend_0 : decode cX1_canSend 0 = .ok (.aload_n 0, 1) := by decide +kernel
theorem dX1_canSend_1 : decode cX1_canSend 1 = .ok (.getfield 18, 3) := by decide +kernel
theorem dX1_canSend_4 : decode cX1_canSend 4 = .ok (.iload_n 1, 1) := by decide +kernel
theorem dX1_canSend_5 : decode cX1_canSend 5 = .ok (.invokevirtual 71, 3) := by decide +kernel
theorem dX1_canSend_8 : decode cX1_canSend 8 = .ok (.ifCond .eq 27, 3) := by decide +kernel
theorem dX1_canSend_11 : decode cX1_canSend 11 = .ok (.iload_n 2, 1) := by decide +kernel
theorem dX1_canSend_12 : decode cX1_canSend 12 = .ok (.invokestatic 74, 3) := by decide +kernel
theorem dX1_canSend_15 : decode cX1_canSend 15 = .ok (.ifCond .eq 20, 3) := by decide +kernel
theorem dX1_canSend_18 : decode cX1_canSend 18 = .ok (.aload_n 0, 1) := by decide +kernel
theorem dX1_canSend_19 : decode cX1_canSend 19 = .ok (.getfield 11, 3) := by decide +kernel
theorem dX1_canSend_22 : decode cX1_canSend 22 = .ok (.bipush 18, 2) := by decide +kernel
theorem dX1_canSend_24 : decode cX1_canSend 24 = .ok (.iload_n 1, 1) := by decide +kernel
theorem dX1_canSend_25 : decode cX1_canSend 25 = .ok (.iadd, 1) := by decide +kernel
theorem dX1_canSend_26 : decode cX1_canSend 26 = .ok (.iaload, 1) := by decide +kernel
theorem dX1_canSend_27 : decode cX1_canSend 27 = .ok (.iload_n 2, 1) := by decide +kernel
theorem dX1_canSend_28 : decode cX1_canSend 28 = .ok (.if_icmp .eq 7, 3) := by decide +kernel
theorem dX1_canSend_31 : decode cX1_canSend 31 = .ok (.iconst 1, 1) := by decide +kernel
theorem dX1_canSend_32 : decode cX1_canSend 32 = .ok (.goto 4, 3) := by decide +kernel
theorem dX1_canSend_35 : decode cX1_canSend 35 = .ok (.iconst 0, 1) := by decide +kernel
theorem dX1_canSend_36 : decode cX1_canSend 36 = .ok (.ireturn, 1) := by decide +kernel
theorem dX1_sendTo_0 : decode cX1_sendTo 0 = .ok (.aload_n 0, 1) := by decide +kernel
theorem dX1_sendTo_1 : decode cX1_sendTo 1 = .ok (.getfield 11, 3) := by decide +kernel
theorem dX1_sendTo_4 : decode cX1_sendTo 4 = .ok (.bipush 18, 2) := by decide +kernel
theorem dX1_sendTo_6 : decode cX1_sendTo 6 = .ok (.iload_n 1, 1) := by decide +kernel
theorem dX1_sendTo_7 : decode cX1_sendTo 7 = .ok (.iadd, 1) := by decide +kernel
theorem dX1_sendTo_8 : decode cX1_sendTo 8 = .ok (.iload_n 2, 1) := by decide +kernel
theorem dX1_sendTo_9 : decode cX1_sendTo 9 = .ok (.iastore, 1) := by decide +kernel
theorem dX1_sendTo_10 : decode cX1_sendTo 10 = .ok (.return_, 1) := by decide +kernel
theorem dX1_addGrain_0 : decode cX1_addGrain 0 = .ok (.aload_n 0, 1) := by decide +kernel
theorem dX1_addGrain_1 : decode cX1_addGrain 1 = .ok (.getfield 11, 3) := by decide +kernel
theorem dX1_addGrain_4 : decode cX1_addGrain 4 = .ok (.bipush 21, 2) := by decide +kernel
theorem dX1_addGrain_6 : decode cX1_addGrain 6 = .ok (.bipush 99, 2) := by decide +kernel
theorem dX1_addGrain_8 : decode cX1_addGrain 8 = .ok (.aload_n 0, 1) := by decide +kernel
theorem dX1_addGrain_9 : decode cX1_addGrain 9 = .ok (.getfield 11, 3) := by decide +kernel
theorem dX1_addGrain_12 : decode cX1_addGrain 12 = .ok (.bipush 21, 2) := by decide +kernel
theorem dX1_addGrain_14 : decode cX1_addGrain 14 = .ok (.iaload, 1) := by decide +kernel
theorem dX1_addGrain_15 : decode cX1_addGrain 15 = .ok (.iload_n 1, 1) := by decide +kernel
theorem dX1_addGrain_16 : decode cX1_addGrain 16 = .ok (.iadd, 1) := by decide +kernel
theorem dX1_addGrain_17 : decode cX1_addGrain 17 = .ok (.invokestatic 77, 3) := by decide +kernel
theorem dX1_addGrain_20 : decode cX1_addGrain 20 = .ok (.iastore, 1) := by decide +kernel
theorem dX1_addGrain_21 : decode cX1_addGrain 21 = .ok (.return_, 1) := by decide +kernel
theorem dX1_answer_0 : decode cX1_answer 0 = .ok (.aload_n 0, 1) := by decide +kernel
theorem dX1_answer_1 : decode cX1_answer 1 = .ok (.getfield 11, 3) := by decide +kernel
theorem dX1_answer_4 : decode cX1_answer 4 = .ok (.bipush 12, 2) := by decide +kernel
theorem dX1_answer_6 : decode cX1_answer 6 = .ok (.iload_n 1, 1) := by decide +kernel
theorem dX1_answer_7 : decode cX1_answer 7 = .ok (.iadd, 1) := by decide +kernel
theorem dX1_answer_8 : decode cX1_answer 8 = .ok (.iconst 1, 1) := by decide +kernel
theorem dX1_answer_9 : decode cX1_answer 9 = .ok (.iastore, 1) := by decide +kernel
theorem dX1_answer_10 : decode cX1_answer 10 = .ok (.return_, 1) := by decide +kernel
theorem dX1_passDay_0 : decode cX1_passDay 0 = .ok (.iconst 0, 1) := by decide +kernel
theorem dX1_passDay_1 : decode cX1_passDay 1 = .ok (.istore_n 1, 1) := by decide +kernel
theorem dX1_passDay_2 : decode cX1_passDay 2 = .ok (.iload_n 1, 1) := by decide +kernel
theorem dX1_passDay_3 : decode cX1_passDay 3 = .ok (.aload_n 0, 1) := by decide +kernel
theorem dX1_passDay_4 : decode cX1_passDay 4 = .ok (.getfield 18, 3) := by decide +kernel
theorem dX1_passDay_7 : decode cX1_passDay 7 = .ok (.getfield 31, 3) := by decide +kernel
theorem dX1_passDay_10 : decode cX1_passDay 10 = .ok (.if_icmp .ge 14, 3) := by decide +kernel
theorem dX1_passDay_13 : decode cX1_passDay 13 = .ok (.aload_n 0, 1) := by decide +kernel
theorem dX1_passDay_14 : decode cX1_passDay 14 = .ok (.iload_n 1, 1) := by decide +kernel
theorem dX1_passDay_15 : decode cX1_passDay 15 = .ok (.invokevirtual 83, 3) := by decide +kernel
theorem dX1_passDay_18 : decode cX1_passDay 18 = .ok (.iinc 1 1, 3) := by decide +kernel
theorem dX1_passDay_21 : decode cX1_passDay 21 = .ok (.goto (-19), 3) := by decide +kernel
theorem dX1_passDay_24 : decode cX1_passDay 24 = .ok (.iconst 0, 1) := by decide +kernel
theorem dX1_passDay_25 : decode cX1_passDay 25 = .ok (.istore_n 1, 1) := by decide +kernel
theorem dX1_passDay_26 : decode cX1_passDay 26 = .ok (.iload_n 1, 1) := by decide +kernel
theorem dX1_passDay_27 : decode cX1_passDay 27 = .ok (.aload_n 0, 1) := by decide +kernel
theorem dX1_passDay_28 : decode cX1_passDay 28 = .ok (.getfield 18, 3) := by decide +kernel
theorem dX1_passDay_31 : decode cX1_passDay 31 = .ok (.getfield 22, 3) := by decide +kernel
theorem dX1_passDay_34 : decode cX1_passDay 34 = .ok (.if_icmp .ge 34, 3) := by decide +kernel
theorem dX1_passDay_37 : decode cX1_passDay 37 = .ok (.aload_n 0, 1) := by decide +kernel
theorem dX1_passDay_38 : decode cX1_passDay 38 = .ok (.getfield 11, 3) := by decide +kernel
theorem dX1_passDay_41 : decode cX1_passDay 41 = .ok (.bipush 12, 2) := by decide +kernel
theorem dX1_passDay_43 : decode cX1_passDay 43 = .ok (.iload_n 1, 1) := by decide +kernel
theorem dX1_passDay_44 : decode cX1_passDay 44 = .ok (.iadd, 1) := by decide +kernel
theorem dX1_passDay_45 : decode cX1_passDay 45 = .ok (.iaload, 1) := by decide +kernel
theorem dX1_passDay_46 : decode cX1_passDay 46 = .ok (.ifCond .ne 16, 3) := by decide +kernel
theorem dX1_passDay_49 : decode cX1_passDay 49 = .ok (.aload_n 0, 1) := by decide +kernel
theorem dX1_passDay_50 : decode cX1_passDay 50 = .ok (.getfield 11, 3) := by decide +kernel
theorem dX1_passDay_53 : decode cX1_passDay 53 = .ok (.bipush 6, 2) := by decide +kernel
theorem dX1_passDay_55 : decode cX1_passDay 55 = .ok (.iload_n 1, 1) := by decide +kernel
theorem dX1_passDay_56 : decode cX1_passDay 56 = .ok (.iadd, 1) := by decide +kernel
theorem dX1_passDay_57 : decode cX1_passDay 57 = .ok (.dup2, 1) := by decide +kernel
theorem dX1_passDay_58 : decode cX1_passDay 58 = .ok (.iaload, 1) := by decide +kernel
theorem dX1_passDay_59 : decode cX1_passDay 59 = .ok (.iconst 1, 1) := by decide +kernel
theorem dX1_passDay_60 : decode cX1_passDay 60 = .ok (.iadd, 1) := by decide +kernel
theorem dX1_passDay_61 : decode cX1_passDay 61 = .ok (.iastore, 1) := by decide +kernel
theorem dX1_passDay_62 : decode cX1_passDay 62 = .ok (.iinc 1 1, 3) := by decide +kernel
theorem dX1_passDay_65 : decode cX1_passDay 65 = .ok (.goto (-39), 3) := by decide +kernel
theorem dX1_passDay_68 : decode cX1_passDay 68 = .ok (.iconst 0, 1) := by decide +kernel
theorem dX1_passDay_69 : decode cX1_passDay 69 = .ok (.istore_n 1, 1) := by decide +kernel
theorem dX1_passDay_70 : decode cX1_passDay 70 = .ok (.iconst 0, 1) := by decide +kernel
theorem dX1_passDay_71 : decode cX1_passDay 71 = .ok (.istore_n 2, 1) := by decide +kernel
theorem dX1_passDay_72 : decode cX1_passDay 72 = .ok (.iload_n 2, 1) := by decide +kernel
theorem dX1_passDay_73 : decode cX1_passDay 73 = .ok (.aload_n 0, 1) := by decide +kernel
theorem dX1_passDay_74 : decode cX1_passDay 74 = .ok (.getfield 18, 3) := by decide +kernel
theorem dX1_passDay_77 : decode cX1_passDay 77 = .ok (.getfield 22, 3) := by decide +kernel
theorem dX1_passDay_80 : decode cX1_passDay 80 = .ok (.if_icmp .ge 37, 3) := by decide +kernel
theorem dX1_passDay_83 : decode cX1_passDay 83 = .ok (.aload_n 0, 1) := by decide +kernel
theorem dX1_passDay_84 : decode cX1_passDay 84 = .ok (.getfield 11, 3) := by decide +kernel
theorem dX1_passDay_87 : decode cX1_passDay 87 = .ok (.bipush 12, 2) := by decide +kernel
theorem dX1_passDay_89 : decode cX1_passDay 89 = .ok (.iload_n 2, 1) := by decide +kernel
theorem dX1_passDay_90 : decode cX1_passDay 90 = .ok (.iadd, 1) := by decide +kernel
theorem dX1_passDay_91 : decode cX1_passDay 91 = .ok (.iaload, 1) := by decide +kernel
theorem dX1_passDay_92 : decode cX1_passDay 92 = .ok (.ifCond .ne 19, 3) := by decide +kernel
theorem dX1_passDay_95 : decode cX1_passDay 95 = .ok (.aload_n 0, 1) := by decide +kernel
theorem dX1_passDay_96 : decode cX1_passDay 96 = .ok (.iload_n 2, 1) := by decide +kernel
theorem dX1_passDay_97 : decode cX1_passDay 97 = .ok (.invokevirtual 87, 3) := by decide +kernel
theorem dX1_passDay_100 : decode cX1_passDay 100 = .ok (.ifCond .ne 11, 3) := by decide +kernel
theorem dX1_passDay_103 : decode cX1_passDay 103 = .ok (.aload_n 0, 1) := by decide +kernel
theorem dX1_passDay_104 : decode cX1_passDay 104 = .ok (.iload_n 2, 1) := by decide +kernel
theorem dX1_passDay_105 : decode cX1_passDay 105 = .ok (.invokevirtual 90, 3) := by decide +kernel
theorem dX1_passDay_108 : decode cX1_passDay 108 = .ok (.iinc 1 1, 3) := by decide +kernel
theorem dX1_passDay_111 : decode cX1_passDay 111 = .ok (.iinc 2 1, 3) := by decide +kernel
theorem dX1_passDay_114 : decode cX1_passDay 114 = .ok (.goto (-42), 3) := by decide +kernel
theorem dX1_passDay_117 : decode cX1_passDay 117 = .ok (.aload_n 0, 1) := by decide +kernel
theorem dX1_passDay_118 : decode cX1_passDay 118 = .ok (.invokevirtual 93, 3) := by decide +kernel
theorem dX1_passDay_121 : decode cX1_passDay 121 = .ok (.aload_n 0, 1) := by decide +kernel
theorem dX1_passDay_122 : decode cX1_passDay 122 = .ok (.getfield 11, 3) := by decide +kernel
theorem dX1_passDay_125 : decode cX1_passDay 125 = .ok (.bipush 22, 2) := by decide +kernel
theorem dX1_passDay_127 : decode cX1_passDay 127 = .ok (.dup2, 1) := by decide +kernel
theorem dX1_passDay_128 : decode cX1_passDay 128 = .ok (.iaload, 1) := by decide +kernel
theorem dX1_passDay_129 : decode cX1_passDay 129 = .ok (.iconst 1, 1) := by decide +kernel
theorem dX1_passDay_130 : decode cX1_passDay 130 = .ok (.iadd, 1) := by decide +kernel
theorem dX1_passDay_131 : decode cX1_passDay 131 = .ok (.iastore, 1) := by decide +kernel
theorem dX1_passDay_132 : decode cX1_passDay 132 = .ok (.iload_n 1, 1) := by decide +kernel
theorem dX1_passDay_133 : decode cX1_passDay 133 = .ok (.ireturn, 1) := by decide +kernel
theorem dX1_clerkAnswers_0 : decode cX1_clerkAnswers 0 = .ok (.iconst 0, 1) := by decide +kernel
theorem dX1_clerkAnswers_1 : decode cX1_clerkAnswers 1 = .ok (.istore_n 2, 1) := by decide +kernel
theorem dX1_clerkAnswers_2 : decode cX1_clerkAnswers 2 = .ok (.iload_n 2, 1) := by decide +kernel
theorem dX1_clerkAnswers_3 : decode cX1_clerkAnswers 3 = .ok (.aload_n 0, 1) := by decide +kernel
theorem dX1_clerkAnswers_4 : decode cX1_clerkAnswers 4 = .ok (.getfield 18, 3) := by decide +kernel
theorem dX1_clerkAnswers_7 : decode cX1_clerkAnswers 7 = .ok (.getfield 96, 3) := by decide +kernel
theorem dX1_clerkAnswers_10 : decode cX1_clerkAnswers 10 = .ok (.iload_n 1, 1) := by decide +kernel
theorem dX1_clerkAnswers_11 : decode cX1_clerkAnswers 11 = .ok (.iaload, 1) := by decide +kernel
theorem dX1_clerkAnswers_12 : decode cX1_clerkAnswers 12 = .ok (.if_icmp .ge 50, 3) := by decide +kernel
theorem dX1_clerkAnswers_15 : decode cX1_clerkAnswers 15 = .ok (.aload_n 0, 1) := by decide +kernel
theorem dX1_clerkAnswers_16 : decode cX1_clerkAnswers 16 = .ok (.aload_n 0, 1) := by decide +kernel
theorem dX1_clerkAnswers_17 : decode cX1_clerkAnswers 17 = .ok (.getfield 11, 3) := by decide +kernel
theorem dX1_clerkAnswers_20 : decode cX1_clerkAnswers 20 = .ok (.bipush 18, 2) := by decide +kernel
theorem dX1_clerkAnswers_22 : decode cX1_clerkAnswers 22 = .ok (.iload_n 1, 1) := by decide +kernel
theorem dX1_clerkAnswers_23 : decode cX1_clerkAnswers 23 = .ok (.iadd, 1) := by decide +kernel
theorem dX1_clerkAnswers_24 : decode cX1_clerkAnswers 24 = .ok (.iaload, 1) := by decide +kernel
theorem dX1_clerkAnswers_25 : decode cX1_clerkAnswers 25 = .ok (.invokevirtual 99, 3) := by decide +kernel
theorem dX1_clerkAnswers_28 : decode cX1_clerkAnswers 28 = .ok (.istore_n 3, 1) := by decide +kernel
theorem dX1_clerkAnswers_29 : decode cX1_clerkAnswers 29 = .ok (.iload_n 3, 1) := by decide +kernel
theorem dX1_clerkAnswers_30 : decode cX1_clerkAnswers 30 = .ok (.bipush (-9), 2) := by decide +kernel
theorem dX1_clerkAnswers_32 : decode cX1_clerkAnswers 32 = .ok (.if_icmp .ne 4, 3) := by decide +kernel
theorem dX1_clerkAnswers_35 : decode cX1_clerkAnswers 35 = .ok (.return_, 1) := by decide +kernel
theorem dX1_clerkAnswers_36 : decode cX1_clerkAnswers 36 = .ok (.aload_n 0, 1) := by decide +kernel
theorem dX1_clerkAnswers_37 : decode cX1_clerkAnswers 37 = .ok (.getfield 11, 3) := by decide +kernel
theorem dX1_clerkAnswers_40 : decode cX1_clerkAnswers 40 = .ok (.bipush 12, 2) := by decide +kernel
theorem dX1_clerkAnswers_42 : decode cX1_clerkAnswers 42 = .ok (.iload_n 3, 1) := by decide +kernel
theorem dX1_clerkAnswers_43 : decode cX1_clerkAnswers 43 = .ok (.iadd, 1) := by decide +kernel
theorem dX1_clerkAnswers_44 : decode cX1_clerkAnswers 44 = .ok (.iconst 1, 1) := by decide +kernel
theorem dX1_clerkAnswers_45 : decode cX1_clerkAnswers 45 = .ok (.iastore, 1) := by decide +kernel
theorem dX1_clerkAnswers_46 : decode cX1_clerkAnswers 46 = .ok (.aload_n 0, 1) := by decide +kernel
theorem dX1_clerkAnswers_47 : decode cX1_clerkAnswers 47 = .ok (.getfield 15, 3) := by decide +kernel
theorem dX1_clerkAnswers_50 : decode cX1_clerkAnswers 50 = .ok (.iload_n 1, 1) := by decide +kernel
theorem dX1_clerkAnswers_51 : decode cX1_clerkAnswers 51 = .ok (.dup2, 1) := by decide +kernel
theorem dX1_clerkAnswers_52 : decode cX1_clerkAnswers 52 = .ok (.iaload, 1) := by decide +kernel
theorem dX1_clerkAnswers_53 : decode cX1_clerkAnswers 53 = .ok (.iconst 1, 1) := by decide +kernel
theorem dX1_clerkAnswers_54 : decode cX1_clerkAnswers 54 = .ok (.iadd, 1) := by decide +kernel
theorem dX1_clerkAnswers_55 : decode cX1_clerkAnswers 55 = .ok (.iastore, 1) := by decide +kernel
theorem dX1_clerkAnswers_56 : decode cX1_clerkAnswers 56 = .ok (.iinc 2 1, 3) := by decide +kernel
theorem dX1_clerkAnswers_59 : decode cX1_clerkAnswers 59 = .ok (.goto (-57), 3) := by decide +kernel
theorem dX1_clerkAnswers_62 : decode cX1_clerkAnswers 62 = .ok (.return_, 1) := by decide +kernel
theorem dX1_mostPressing_0 : decode cX1_mostPressing 0 = .ok (.bipush (-9), 2) := by decide +kernel
theorem dX1_mostPressing_2 : decode cX1_mostPressing 2 = .ok (.istore_n 2, 1) := by decide +kernel
theorem dX1_mostPressing_3 : decode cX1_mostPressing 3 = .ok (.iconst 0, 1) := by decide +kernel
theorem dX1_mostPressing_4 : decode cX1_mostPressing 4 = .ok (.istore_n 3, 1) := by decide +kernel
theorem dX1_mostPressing_5 : decode cX1_mostPressing 5 = .ok (.iconst 0, 1) := by decide +kernel
theorem dX1_mostPressing_6 : decode cX1_mostPressing 6 = .ok (.istore 4, 2) := by decide +kernel
theorem dX1_mostPressing_8 : decode cX1_mostPressing 8 = .ok (.iload 4, 2) := by decide +kernel
theorem dX1_mostPressing_10 : decode cX1_mostPressing 10 = .ok (.aload_n 0, 1) := by decide +kernel
theorem dX1_mostPressing_11 : decode cX1_mostPressing 11 = .ok (.getfield 18, 3) := by decide +kernel
theorem dX1_mostPressing_14 : decode cX1_mostPressing 14 = .ok (.getfield 22, 3) := by decide +kernel
theorem dX1_mostPressing_17 : decode cX1_mostPressing 17 = .ok (.if_icmp .ge 63, 3) := by decide +kernel
theorem dX1_mostPressing_20 : decode cX1_mostPressing 20 = .ok (.aload_n 0, 1) := by decide +kernel
theorem dX1_mostPressing_21 : decode cX1_mostPressing 21 = .ok (.getfield 11, 3) := by decide +kernel
theorem dX1_mostPressing_24 : decode cX1_mostPressing 24 = .ok (.bipush 12, 2) := by decide +kernel
theorem dX1_mostPressing_26 : decode cX1_mostPressing 26 = .ok (.iload 4, 2) := by decide +kernel
theorem dX1_mostPressing_28 : decode cX1_mostPressing 28 = .ok (.iadd, 1) := by decide +kernel
theorem dX1_mostPressing_29 : decode cX1_mostPressing 29 = .ok (.iaload, 1) := by decide +kernel
theorem dX1_mostPressing_30 : decode cX1_mostPressing 30 = .ok (.ifCond .ne 44, 3) := by decide +kernel
theorem dX1_mostPressing_33 : decode cX1_mostPressing 33 = .ok (.aload_n 0, 1) := by decide +kernel
theorem dX1_mostPressing_34 : decode cX1_mostPressing 34 = .ok (.getfield 11, 3) := by decide +kernel
theorem dX1_mostPressing_37 : decode cX1_mostPressing 37 = .ok (.iconst 0, 1) := by decide +kernel
theorem dX1_mostPressing_38 : decode cX1_mostPressing 38 = .ok (.iload 4, 2) := by decide +kernel
theorem dX1_mostPressing_40 : decode cX1_mostPressing 40 = .ok (.iadd, 1) := by decide +kernel
theorem dX1_mostPressing_41 : decode cX1_mostPressing 41 = .ok (.iaload, 1) := by decide +kernel
theorem dX1_mostPressing_42 : decode cX1_mostPressing 42 = .ok (.iconst 4, 1) := by decide +kernel
theorem dX1_mostPressing_43 : decode cX1_mostPressing 43 = .ok (.idiv, 1) := by decide +kernel
theorem dX1_mostPressing_44 : decode cX1_mostPressing 44 = .ok (.iload_n 1, 1) := by decide +kernel
theorem dX1_mostPressing_45 : decode cX1_mostPressing 45 = .ok (.if_icmp .ne 29, 3) := by decide +kernel
theorem dX1_mostPressing_48 : decode cX1_mostPressing 48 = .ok (.aload_n 0, 1) := by decide +kernel
theorem dX1_mostPressing_49 : decode cX1_mostPressing 49 = .ok (.iload 4, 2) := by decide +kernel
theorem dX1_mostPressing_51 : decode cX1_mostPressing 51 = .ok (.invokevirtual 87, 3) := by decide +kernel
theorem dX1_mostPressing_54 : decode cX1_mostPressing 54 = .ok (.istore 5, 2) := by decide +kernel
theorem dX1_mostPressing_56 : decode cX1_mostPressing 56 = .ok (.iload_n 2, 1) := by decide +kernel
theorem dX1_mostPressing_57 : decode cX1_mostPressing 57 = .ok (.bipush (-9), 2) := by decide +kernel
theorem dX1_mostPressing_59 : decode cX1_mostPressing 59 = .ok (.if_icmp .eq 9, 3) := by decide +kernel
theorem dX1_mostPressing_62 : decode cX1_mostPressing 62 = .ok (.iload 5, 2) := by decide +kernel
theorem dX1_mostPressing_64 : decode cX1_mostPressing 64 = .ok (.iload_n 3, 1) := by decide +kernel
theorem dX1_mostPressing_65 : decode cX1_mostPressing 65 = .ok (.if_icmp .ge 9, 3) := by decide +kernel
theorem dX1_mostPressing_68 : decode cX1_mostPressing 68 = .ok (.iload 4, 2) := by decide +kernel
theorem dX1_mostPressing_70 : decode cX1_mostPressing 70 = .ok (.istore_n 2, 1) := by decide +kernel
theorem dX1_mostPressing_71 : decode cX1_mostPressing 71 = .ok (.iload 5, 2) := by decide +kernel
theorem dX1_mostPressing_73 : decode cX1_mostPressing 73 = .ok (.istore_n 3, 1) := by decide +kernel
theorem dX1_mostPressing_74 : decode cX1_mostPressing 74 = .ok (.iinc 4 1, 3) := by decide +kernel
theorem dX1_mostPressing_77 : decode cX1_mostPressing 77 = .ok (.goto (-69), 3) := by decide +kernel
theorem dX1_mostPressing_80 : decode cX1_mostPressing 80 = .ok (.iload_n 2, 1) := by decide +kernel
theorem dX1_mostPressing_81 : decode cX1_mostPressing 81 = .ok (.ireturn, 1) := by decide +kernel
theorem dX1_hatch_0 : decode cX1_hatch 0 = .ok (.aload_n 0, 1) := by decide +kernel
theorem dX1_hatch_1 : decode cX1_hatch 1 = .ok (.getfield 11, 3) := by decide +kernel
theorem dX1_hatch_4 : decode cX1_hatch 4 = .ok (.bipush 12, 2) := by decide +kernel
theorem dX1_hatch_6 : decode cX1_hatch 6 = .ok (.iload_n 1, 1) := by decide +kernel
theorem dX1_hatch_7 : decode cX1_hatch 7 = .ok (.iadd, 1) := by decide +kernel
theorem dX1_hatch_8 : decode cX1_hatch 8 = .ok (.iconst 2, 1) := by decide +kernel
theorem dX1_hatch_9 : decode cX1_hatch 9 = .ok (.iastore, 1) := by decide +kernel
theorem dX1_hatch_10 : decode cX1_hatch 10 = .ok (.aload_n 0, 1) := by decide +kernel
theorem dX1_hatch_11 : decode cX1_hatch 11 = .ok (.getfield 11, 3) := by decide +kernel
theorem dX1_hatch_14 : decode cX1_hatch 14 = .ok (.iconst 0, 1) := by decide +kernel
theorem dX1_hatch_15 : decode cX1_hatch 15 = .ok (.iload_n 1, 1) := by decide +kernel
theorem dX1_hatch_16 : decode cX1_hatch 16 = .ok (.iadd, 1) := by decide +kernel
theorem dX1_hatch_17 : decode cX1_hatch 17 = .ok (.iaload, 1) := by decide +kernel
theorem dX1_hatch_18 : decode cX1_hatch 18 = .ok (.istore_n 2, 1) := by decide +kernel
theorem dX1_hatch_19 : decode cX1_hatch 19 = .ok (.aload_n 0, 1) := by decide +kernel
theorem dX1_hatch_20 : decode cX1_hatch 20 = .ok (.getfield 18, 3) := by decide +kernel
theorem dX1_hatch_23 : decode cX1_hatch 23 = .ok (.getfield 61, 3) := by decide +kernel
theorem dX1_hatch_26 : decode cX1_hatch 26 = .ok (.iload_n 1, 1) := by decide +kernel
theorem dX1_hatch_27 : decode cX1_hatch 27 = .ok (.iaload, 1) := by decide +kernel
theorem dX1_hatch_28 : decode cX1_hatch 28 = .ok (.iconst 1, 1) := by decide +kernel
theorem dX1_hatch_29 : decode cX1_hatch 29 = .ok (.if_icmp .ne 8, 3) := by decide +kernel
theorem dX1_hatch_32 : decode cX1_hatch 32 = .ok (.iload_n 2, 1) := by decide +kernel
theorem dX1_hatch_33 : decode cX1_hatch 33 = .ok (.iconst 4, 1) := by decide +kernel
theorem dX1_hatch_34 : decode cX1_hatch 34 = .ok (.if_icmp .ge 4, 3) := by decide +kernel
theorem dX1_hatch_37 : decode cX1_hatch 37 = .ok (.return_, 1) := by decide +kernel
theorem dX1_hatch_38 : decode cX1_hatch 38 = .ok (.iconst 0, 1) := by decide +kernel
theorem dX1_hatch_39 : decode cX1_hatch 39 = .ok (.istore_n 3, 1) := by decide +kernel
theorem dX1_hatch_40 : decode cX1_hatch 40 = .ok (.iload_n 3, 1) := by decide +kernel
theorem dX1_hatch_41 : decode cX1_hatch 41 = .ok (.aload_n 0, 1) := by decide +kernel
theorem dX1_hatch_42 : decode cX1_hatch 42 = .ok (.getfield 18, 3) := by decide +kernel
theorem dX1_hatch_45 : decode cX1_hatch 45 = .ok (.getfield 22, 3) := by decide +kernel
theorem dX1_hatch_48 : decode cX1_hatch 48 = .ok (.if_icmp .ge 44, 3) := by decide +kernel
theorem dX1_hatch_51 : decode cX1_hatch 51 = .ok (.aload_n 0, 1) := by decide +kernel
theorem dX1_hatch_52 : decode cX1_hatch 52 = .ok (.getfield 11, 3) := by decide +kernel
theorem dX1_hatch_55 : decode cX1_hatch 55 = .ok (.bipush 12, 2) := by decide +kernel
theorem dX1_hatch_57 : decode cX1_hatch 57 = .ok (.iload_n 3, 1) := by decide +kernel
theorem dX1_hatch_58 : decode cX1_hatch 58 = .ok (.iadd, 1) := by decide +kernel
theorem dX1_hatch_59 : decode cX1_hatch 59 = .ok (.iaload, 1) := by decide +kernel
theorem dX1_hatch_60 : decode cX1_hatch 60 = .ok (.ifCond .ne 26, 3) := by decide +kernel
theorem dX1_hatch_63 : decode cX1_hatch 63 = .ok (.aload_n 0, 1) := by decide +kernel
theorem dX1_hatch_64 : decode cX1_hatch 64 = .ok (.getfield 11, 3) := by decide +kernel
theorem dX1_hatch_67 : decode cX1_hatch 67 = .ok (.iconst 0, 1) := by decide +kernel
theorem dX1_hatch_68 : decode cX1_hatch 68 = .ok (.iload_n 3, 1) := by decide +kernel
theorem dX1_hatch_69 : decode cX1_hatch 69 = .ok (.iadd, 1) := by decide +kernel
theorem dX1_hatch_70 : decode cX1_hatch 70 = .ok (.iaload, 1) := by decide +kernel
theorem dX1_hatch_71 : decode cX1_hatch 71 = .ok (.iload_n 2, 1) := by decide +kernel
theorem dX1_hatch_72 : decode cX1_hatch 72 = .ok (.if_icmp .ne 14, 3) := by decide +kernel
theorem dX1_hatch_75 : decode cX1_hatch 75 = .ok (.aload_n 0, 1) := by decide +kernel
theorem dX1_hatch_76 : decode cX1_hatch 76 = .ok (.getfield 11, 3) := by decide +kernel
theorem dX1_hatch_79 : decode cX1_hatch 79 = .ok (.iconst 0, 1) := by decide +kernel
theorem dX1_hatch_80 : decode cX1_hatch 80 = .ok (.iload_n 3, 1) := by decide +kernel
theorem dX1_hatch_81 : decode cX1_hatch 81 = .ok (.iadd, 1) := by decide +kernel
theorem dX1_hatch_82 : decode cX1_hatch 82 = .ok (.iload_n 2, 1) := by decide +kernel
theorem dX1_hatch_83 : decode cX1_hatch 83 = .ok (.iconst 4, 1) := by decide +kernel
theorem dX1_hatch_84 : decode cX1_hatch 84 = .ok (.isub, 1) := by decide +kernel
theorem dX1_hatch_85 : decode cX1_hatch 85 = .ok (.iastore, 1) := by decide +kernel
theorem dX1_hatch_86 : decode cX1_hatch 86 = .ok (.iinc 3 1, 3) := by decide +kernel
theorem dX1_hatch_89 : decode cX1_hatch 89 = .ok (.goto (-49), 3) := by decide +kernel
theorem dX1_hatch_92 : decode cX1_hatch 92 = .ok (.return_, 1) := by decide +kernel
theorem dX1_birdsEat_0 : decode cX1_birdsEat 0 = .ok (.iconst 0, 1) := by decide +kernel
theorem dX1_birdsEat_1 : decode cX1_birdsEat 1 = .ok (.istore_n 1, 1) := by decide +kernel
theorem dX1_birdsEat_2 : decode cX1_birdsEat 2 = .ok (.iload_n 1, 1) := by decide +kernel
theorem dX1_birdsEat_3 : decode cX1_birdsEat 3 = .ok (.aload_n 0, 1) := by decide +kernel
theorem dX1_birdsEat_4 : decode cX1_birdsEat 4 = .ok (.getfield 18, 3) := by decide +kernel
theorem dX1_birdsEat_7 : decode cX1_birdsEat 7 = .ok (.getfield 22, 3) := by decide +kernel
theorem dX1_birdsEat_10 : decode cX1_birdsEat 10 = .ok (.if_icmp .ge 56, 3) := by decide +kernel
theorem dX1_birdsEat_13 : decode cX1_birdsEat 13 = .ok (.aload_n 0, 1) := by decide +kernel
theorem dX1_birdsEat_14 : decode cX1_birdsEat 14 = .ok (.getfield 11, 3) := by decide +kernel
theorem dX1_birdsEat_17 : decode cX1_birdsEat 17 = .ok (.bipush 12, 2) := by decide +kernel
theorem dX1_birdsEat_19 : decode cX1_birdsEat 19 = .ok (.iload_n 1, 1) := by decide +kernel
theorem dX1_birdsEat_20 : decode cX1_birdsEat 20 = .ok (.iadd, 1) := by decide +kernel
theorem dX1_birdsEat_21 : decode cX1_birdsEat 21 = .ok (.iaload, 1) := by decide +kernel
theorem dX1_birdsEat_22 : decode cX1_birdsEat 22 = .ok (.iconst 2, 1) := by decide +kernel
theorem dX1_birdsEat_23 : decode cX1_birdsEat 23 = .ok (.if_icmp .ne 37, 3) := by decide +kernel
theorem dX1_birdsEat_26 : decode cX1_birdsEat 26 = .ok (.aload_n 0, 1) := by decide +kernel
theorem dX1_birdsEat_27 : decode cX1_birdsEat 27 = .ok (.getfield 11, 3) := by decide +kernel
theorem dX1_birdsEat_30 : decode cX1_birdsEat 30 = .ok (.bipush 21, 2) := by decide +kernel
theorem dX1_birdsEat_32 : decode cX1_birdsEat 32 = .ok (.iaload, 1) := by decide +kernel
theorem dX1_birdsEat_33 : decode cX1_birdsEat 33 = .ok (.ifCond .le 17, 3) := by decide +kernel
theorem dX1_birdsEat_36 : decode cX1_birdsEat 36 = .ok (.aload_n 0, 1) := by decide +kernel
theorem dX1_birdsEat_37 : decode cX1_birdsEat 37 = .ok (.getfield 11, 3) := by decide +kernel
theorem dX1_birdsEat_40 : decode cX1_birdsEat 40 = .ok (.bipush 21, 2) := by decide +kernel
theorem dX1_birdsEat_42 : decode cX1_birdsEat 42 = .ok (.dup2, 1) := by decide +kernel
theorem dX1_birdsEat_43 : decode cX1_birdsEat 43 = .ok (.iaload, 1) := by decide +kernel
theorem dX1_birdsEat_44 : decode cX1_birdsEat 44 = .ok (.iconst 1, 1) := by decide +kernel
theorem dX1_birdsEat_45 : decode cX1_birdsEat 45 = .ok (.isub, 1) := by decide +kernel
theorem dX1_birdsEat_46 : decode cX1_birdsEat 46 = .ok (.iastore, 1) := by decide +kernel
theorem dX1_birdsEat_47 : decode cX1_birdsEat 47 = .ok (.goto 13, 3) := by decide +kernel
theorem dX1_birdsEat_50 : decode cX1_birdsEat 50 = .ok (.aload_n 0, 1) := by decide +kernel
theorem dX1_birdsEat_51 : decode cX1_birdsEat 51 = .ok (.getfield 11, 3) := by decide +kernel
theorem dX1_birdsEat_54 : decode cX1_birdsEat 54 = .ok (.bipush 12, 2) := by decide +kernel
theorem dX1_birdsEat_56 : decode cX1_birdsEat 56 = .ok (.iload_n 1, 1) := by decide +kernel
theorem dX1_birdsEat_57 : decode cX1_birdsEat 57 = .ok (.iadd, 1) := by decide +kernel
theorem dX1_birdsEat_58 : decode cX1_birdsEat 58 = .ok (.iconst 3, 1) := by decide +kernel
theorem dX1_birdsEat_59 : decode cX1_birdsEat 59 = .ok (.iastore, 1) := by decide +kernel
theorem dX1_birdsEat_60 : decode cX1_birdsEat 60 = .ok (.iinc 1 1, 3) := by decide +kernel
theorem dX1_birdsEat_63 : decode cX1_birdsEat 63 = .ok (.goto (-61), 3) := by decide +kernel
theorem dX1_birdsEat_66 : decode cX1_birdsEat 66 = .ok (.return_, 1) := by decide +kernel
theorem dX2_init_0 : decode cX2_init 0 = .ok (.aload_n 0, 1) := by decide +kernel
theorem dX2_init_1 : decode cX2_init 1 = .ok (.invokespecial 3, 3) := by decide +kernel
theorem dX2_init_4 : decode cX2_init 4 = .ok (.aload_n 0, 1) := by decide +kernel
theorem dX2_init_5 : decode cX2_init 5 = .ok (.iconst 4, 1) := by decide +kernel
theorem dX2_init_6 : decode cX2_init 6 = .ok (.newarray .int, 2) := by decide +kernel
theorem dX2_init_8 : decode cX2_init 8 = .ok (.putfield 9, 3) := by decide +kernel
theorem dX2_init_11 : decode cX2_init 11 = .ok (.aload_n 0, 1) := by decide +kernel
theorem dX2_init_12 : decode cX2_init 12 = .ok (.bipush 8, 2) := by decide +kernel
theorem dX2_init_14 : decode cX2_init 14 = .ok (.newarray .int, 2) := by decide +kernel
theorem dX2_init_16 : decode cX2_init 16 = .ok (.putfield 15, 3) := by decide +kernel
theorem dX2_init_19 : decode cX2_init 19 = .ok (.aload_n 0, 1) := by decide +kernel
theorem dX2_init_20 : decode cX2_init 20 = .ok (.bipush 9, 2) := by decide +kernel
theorem dX2_init_22 : decode cX2_init 22 = .ok (.newarray .int, 2) := by decide +kernel
theorem dX2_init_24 : decode cX2_init 24 = .ok (.putfield 18, 3) := by decide +kernel
theorem dX2_init_27 : decode cX2_init 27 = .ok (.aload_n 0, 1) := by decide +kernel
theorem dX2_init_28 : decode cX2_init 28 = .ok (.bipush 9, 2) := by decide +kernel
theorem dX2_init_30 : decode cX2_init 30 = .ok (.newarray .int, 2) := by decide +kernel
theorem dX2_init_32 : decode cX2_init 32 = .ok (.putfield 21, 3) := by decide +kernel
theorem dX2_init_35 : decode cX2_init 35 = .ok (.aload_n 0, 1) := by decide +kernel
theorem dX2_init_36 : decode cX2_init 36 = .ok (.aload_n 1, 1) := by decide +kernel
theorem dX2_init_37 : decode cX2_init 37 = .ok (.putfield 24, 3) := by decide +kernel
theorem dX2_init_40 : decode cX2_init 40 = .ok (.aload_n 0, 1) := by decide +kernel
theorem dX2_init_41 : decode cX2_init 41 = .ok (.aload_n 2, 1) := by decide +kernel
theorem dX2_init_42 : decode cX2_init 42 = .ok (.putfield 28, 3) := by decide +kernel
theorem dX2_init_45 : decode cX2_init 45 = .ok (.aload_n 0, 1) := by decide +kernel
theorem dX2_init_46 : decode cX2_init 46 = .ok (.new 32, 3) := by decide +kernel
theorem dX2_init_49 : decode cX2_init 49 = .ok (.dup, 1) := by decide +kernel
theorem dX2_init_50 : decode cX2_init 50 = .ok (.aload_n 1, 1) := by decide +kernel
theorem dX2_init_51 : decode cX2_init 51 = .ok (.invokespecial 34, 3) := by decide +kernel
theorem dX2_init_54 : decode cX2_init 54 = .ok (.putfield 37, 3) := by decide +kernel
theorem dX2_init_57 : decode cX2_init 57 = .ok (.return_, 1) := by decide +kernel
theorem dX2_whoIn_0 : decode cX2_whoIn 0 = .ok (.aload_n 0, 1) := by decide +kernel
theorem dX2_whoIn_1 : decode cX2_whoIn 1 = .ok (.getfield 37, 3) := by decide +kernel
theorem dX2_whoIn_4 : decode cX2_whoIn 4 = .ok (.aload_n 0, 1) := by decide +kernel
theorem dX2_whoIn_5 : decode cX2_whoIn 5 = .ok (.getfield 28, 3) := by decide +kernel
theorem dX2_whoIn_8 : decode cX2_whoIn 8 = .ok (.invokevirtual 40, 3) := by decide +kernel
theorem dX2_whoIn_11 : decode cX2_whoIn 11 = .ok (.iconst 0, 1) := by decide +kernel
theorem dX2_whoIn_12 : decode cX2_whoIn 12 = .ok (.istore_n 3, 1) := by decide +kernel
theorem dX2_whoIn_13 : decode cX2_whoIn 13 = .ok (.iload_n 3, 1) := by decide +kernel
theorem dX2_whoIn_14 : decode cX2_whoIn 14 = .ok (.iload_n 1, 1) := by decide +kernel
theorem dX2_whoIn_15 : decode cX2_whoIn 15 = .ok (.if_icmp .ge 17, 3) := by decide +kernel
theorem dX2_whoIn_18 : decode cX2_whoIn 18 = .ok (.aload_n 0, 1) := by decide +kernel
theorem dX2_whoIn_19 : decode cX2_whoIn 19 = .ok (.getfield 37, 3) := by decide +kernel
theorem dX2_whoIn_22 : decode cX2_whoIn 22 = .ok (.invokevirtual 44, 3) := by decide +kernel
theorem dX2_whoIn_25 : decode cX2_whoIn 25 = .ok (.pop, 1) := by decide +kernel
theorem dX2_whoIn_26 : decode cX2_whoIn 26 = .ok (.iinc 3 1, 3) := by decide +kernel
theorem dX2_whoIn_29 : decode cX2_whoIn 29 = .ok (.goto (-16), 3) := by decide +kernel
theorem dX2_whoIn_32 : decode cX2_whoIn 32 = .ok (.aload_n 0, 1) := by decide +kernel
theorem dX2_whoIn_33 : decode cX2_whoIn 33 = .ok (.getfield 37, 3) := by decide +kernel
theorem dX2_whoIn_36 : decode cX2_whoIn 36 = .ok (.iload_n 2, 1) := by decide +kernel
theorem dX2_whoIn_37 : decode cX2_whoIn 37 = .ok (.invokevirtual 48, 3) := by decide +kernel
theorem dX2_whoIn_40 : decode cX2_whoIn 40 = .ok (.ireturn, 1) := by decide +kernel
theorem dX2_daysToHatch_0 : decode cX2_daysToHatch 0 = .ok (.aload_n 0, 1) := by decide +kernel
theorem dX2_daysToHatch_1 : decode cX2_daysToHatch 1 = .ok (.getfield 37, 3) := by decide +kernel
theorem dX2_daysToHatch_4 : decode cX2_daysToHatch 4 = .ok (.aload_n 0, 1) := by decide +kernel
theorem dX2_daysToHatch_5 : decode cX2_daysToHatch 5 = .ok (.getfield 28, 3) := by decide +kernel
theorem dX2_daysToHatch_8 : decode cX2_daysToHatch 8 = .ok (.invokevirtual 40, 3) := by decide +kernel
theorem dX2_daysToHatch_11 : decode cX2_daysToHatch 11 = .ok (.aload_n 0, 1) := by decide +kernel
theorem dX2_daysToHatch_12 : decode cX2_daysToHatch 12 = .ok (.getfield 37, 3) := by decide +kernel
theorem dX2_daysToHatch_15 : decode cX2_daysToHatch 15 = .ok (.iload_n 1, 1) := by decide +kernel
theorem dX2_daysToHatch_16 : decode cX2_daysToHatch 16 = .ok (.iload_n 2, 1) := by decide +kernel
theorem dX2_daysToHatch_17 : decode cX2_daysToHatch 17 = .ok (.invokevirtual 52, 3) := by decide +kernel
theorem dX2_daysToHatch_20 : decode cX2_daysToHatch 20 = .ok (.iconst 0, 1) := by decide +kernel
theorem dX2_daysToHatch_21 : decode cX2_daysToHatch 21 = .ok (.istore_n 3, 1) := by decide +kernel
theorem dX2_daysToHatch_22 : decode cX2_daysToHatch 22 = .ok (.iload_n 3, 1) := by decide +kernel
theorem dX2_daysToHatch_23 : decode cX2_daysToHatch 23 = .ok (.bipush 20, 2) := by decide +kernel
theorem dX2_daysToHatch_25 : decode cX2_daysToHatch 25 = .ok (.if_icmp .gt 45, 3) := by decide +kernel
theorem dX2_daysToHatch_28 : decode cX2_daysToHatch 28 = .ok (.aload_n 0, 1) := by decide +kernel
theorem dX2_daysToHatch_29 : decode cX2_daysToHatch 29 = .ok (.getfield 37, 3) := by decide +kernel
theorem dX2_daysToHatch_32 : decode cX2_daysToHatch 32 = .ok (.iload_n 1, 1) := by decide +kernel
theorem dX2_daysToHatch_33 : decode cX2_daysToHatch 33 = .ok (.invokevirtual 56, 3) := by decide +kernel
theorem dX2_daysToHatch_36 : decode cX2_daysToHatch 36 = .ok (.istore 4, 2) := by decide +kernel
theorem dX2_daysToHatch_38 : decode cX2_daysToHatch 38 = .ok (.iload 4, 2) := by decide +kernel
theorem dX2_daysToHatch_40 : decode cX2_daysToHatch 40 = .ok (.ifCond .eq 16, 3) := by decide +kernel
theorem dX2_daysToHatch_43 : decode cX2_daysToHatch 43 = .ok (.iload 4, 2) := by decide +kernel
theorem dX2_daysToHatch_45 : decode cX2_daysToHatch 45 = .ok (.iconst 1, 1) := by decide +kernel
theorem dX2_daysToHatch_46 : decode cX2_daysToHatch 46 = .ok (.if_icmp .ne 8, 3) := by decide +kernel
theorem dX2_daysToHatch_49 : decode cX2_daysToHatch 49 = .ok (.bipush 21, 2) := by decide +kernel
theorem dX2_daysToHatch_51 : decode cX2_daysToHatch 51 = .ok (.goto 4, 3) := by decide +kernel
theorem dX2_daysToHatch_54 : decode cX2_daysToHatch 54 = .ok (.iload_n 3, 1) := by decide +kernel
theorem dX2_daysToHatch_55 : decode cX2_daysToHatch 55 = .ok (.ireturn, 1) := by decide +kernel
theorem dX2_daysToHatch_56 : decode cX2_daysToHatch 56 = .ok (.aload_n 0, 1) := by decide +kernel
theorem dX2_daysToHatch_57 : decode cX2_daysToHatch 57 = .ok (.getfield 37, 3) := by decide +kernel
theorem dX2_daysToHatch_60 : decode cX2_daysToHatch 60 = .ok (.invokevirtual 44, 3) := by decide +kernel
theorem dX2_daysToHatch_63 : decode cX2_daysToHatch 63 = .ok (.pop, 1) := by decide +kernel
theorem dX2_daysToHatch_64 : decode cX2_daysToHatch 64 = .ok (.iinc 3 1, 3) := by decide +kernel
theorem dX2_daysToHatch_67 : decode cX2_daysToHatch 67 = .ok (.goto (-45), 3) := by decide +kernel
theorem dX2_daysToHatch_70 : decode cX2_daysToHatch 70 = .ok (.bipush 21, 2) := by decide +kernel
theorem dX2_daysToHatch_72 : decode cX2_daysToHatch 72 = .ok (.ireturn, 1) := by decide +kernel
theorem dX2_bestRows_0 : decode cX2_bestRows 0 = .ok (.iconst 1, 1) := by decide +kernel
theorem dX2_bestRows_1 : decode cX2_bestRows 1 = .ok (.istore_n 2, 1) := by decide +kernel
theorem dX2_bestRows_2 : decode cX2_bestRows 2 = .ok (.iconst 0, 1) := by decide +kernel
theorem dX2_bestRows_3 : decode cX2_bestRows 3 = .ok (.istore_n 3, 1) := by decide +kernel
theorem dX2_bestRows_4 : decode cX2_bestRows 4 = .ok (.iload_n 3, 1) := by decide +kernel
theorem dX2_bestRows_5 : decode cX2_bestRows 5 = .ok (.aload_n 0, 1) := by decide +kernel
theorem dX2_bestRows_6 : decode cX2_bestRows 6 = .ok (.getfield 24, 3) := by decide +kernel
theorem dX2_bestRows_9 : decode cX2_bestRows 9 = .ok (.getfield 59, 3) := by decide +kernel
theorem dX2_bestRows_12 : decode cX2_bestRows 12 = .ok (.if_icmp .ge 13, 3) := by decide +kernel
theorem dX2_bestRows_15 : decode cX2_bestRows 15 = .ok (.iload_n 2, 1) := by decide +kernel
theorem dX2_bestRows_16 : decode cX2_bestRows 16 = .ok (.iconst 3, 1) := by decide +kernel
theorem dX2_bestRows_17 : decode cX2_bestRows 17 = .ok (.imul, 1) := by decide +kernel
theorem dX2_bestRows_18 : decode cX2_bestRows 18 = .ok (.istore_n 2, 1) := by decide +kernel
theorem dX2_bestRows_19 : decode cX2_bestRows 19 = .ok (.iinc 3 1, 3) := by decide +kernel
theorem dX2_bestRows_22 : decode cX2_bestRows 22 = .ok (.goto (-18), 3) := by decide +kernel
theorem dX2_bestRows_25 : decode cX2_bestRows 25 = .ok (.iconst 0, 1) := by decide +kernel
theorem dX2_bestRows_26 : decode cX2_bestRows 26 = .ok (.istore_n 3, 1) := by decide +kernel
theorem dX2_bestRows_27 : decode cX2_bestRows 27 = .ok (.bipush (-9), 2) := by decide +kernel
theorem dX2_bestRows_29 : decode cX2_bestRows 29 = .ok (.istore 4, 2) := by decide +kernel
theorem dX2_bestRows_31 : decode cX2_bestRows 31 = .ok (.iconst 0, 1) := by decide +kernel
theorem dX2_bestRows_32 : decode cX2_bestRows 32 = .ok (.istore 5, 2) := by decide +kernel
theorem dX2_bestRows_34 : decode cX2_bestRows 34 = .ok (.iload 5, 2) := by decide +kernel
theorem dX2_bestRows_36 : decode cX2_bestRows 36 = .ok (.iload_n 2, 1) := by decide +kernel
theorem dX2_bestRows_37 : decode cX2_bestRows 37 = .ok (.if_icmp .ge 82, 3) := by decide +kernel
theorem dX2_bestRows_40 : decode cX2_bestRows 40 = .ok (.aload_n 0, 1) := by decide +kernel
theorem dX2_bestRows_41 : decode cX2_bestRows 41 = .ok (.getfield 37, 3) := by decide +kernel
theorem dX2_bestRows_44 : decode cX2_bestRows 44 = .ok (.aload_n 0, 1) := by decide +kernel
theorem dX2_bestRows_45 : decode cX2_bestRows 45 = .ok (.getfield 28, 3) := by decide +kernel
theorem dX2_bestRows_48 : decode cX2_bestRows 48 = .ok (.invokevirtual 40, 3) := by decide +kernel
theorem dX2_bestRows_51 : decode cX2_bestRows 51 = .ok (.aload_n 0, 1) := by decide +kernel
theorem dX2_bestRows_52 : decode cX2_bestRows 52 = .ok (.iload 5, 2) := by decide +kernel
theorem dX2_bestRows_54 : decode cX2_bestRows 54 = .ok (.invokevirtual 65, 3) := by decide +kernel
theorem dX2_bestRows_57 : decode cX2_bestRows 57 = .ok (.istore 6, 2) := by decide +kernel
theorem dX2_bestRows_59 : decode cX2_bestRows 59 = .ok (.iconst 0, 1) := by decide +kernel
theorem dX2_bestRows_60 : decode cX2_bestRows 60 = .ok (.istore 7, 2) := by decide +kernel
theorem dX2_bestRows_62 : decode cX2_bestRows 62 = .ok (.iload 7, 2) := by decide +kernel
theorem dX2_bestRows_64 : decode cX2_bestRows 64 = .ok (.bipush 9, 2) := by decide +kernel
theorem dX2_bestRows_66 : decode cX2_bestRows 66 = .ok (.if_icmp .ge 17, 3) := by decide +kernel
theorem dX2_bestRows_69 : decode cX2_bestRows 69 = .ok (.aload_n 0, 1) := by decide +kernel
theorem dX2_bestRows_70 : decode cX2_bestRows 70 = .ok (.getfield 37, 3) := by decide +kernel
theorem dX2_bestRows_73 : decode cX2_bestRows 73 = .ok (.invokevirtual 44, 3) := by decide +kernel
theorem dX2_bestRows_76 : decode cX2_bestRows 76 = .ok (.pop, 1) := by decide +kernel
theorem dX2_bestRows_77 : decode cX2_bestRows 77 = .ok (.iinc 7 1, 3) := by decide +kernel
theorem dX2_bestRows_80 : decode cX2_bestRows 80 = .ok (.goto (-18), 3) := by decide +kernel
theorem dX2_bestRows_83 : decode cX2_bestRows 83 = .ok (.aload_n 0, 1) := by decide +kernel
theorem dX2_bestRows_84 : decode cX2_bestRows 84 = .ok (.getfield 37, 3) := by decide +kernel
theorem dX2_bestRows_87 : decode cX2_bestRows 87 = .ok (.invokevirtual 68, 3) := by decide +kernel
theorem dX2_bestRows_90 : decode cX2_bestRows 90 = .ok (.istore 7, 2) := by decide +kernel
theorem dX2_bestRows_92 : decode cX2_bestRows 92 = .ok (.iload 4, 2) := by decide +kernel
theorem dX2_bestRows_94 : decode cX2_bestRows 94 = .ok (.bipush (-9), 2) := by decide +kernel
theorem dX2_bestRows_96 : decode cX2_bestRows 96 = .ok (.if_icmp .eq 10, 3) := by decide +kernel
theorem dX2_bestRows_99 : decode cX2_bestRows 99 = .ok (.iload 7, 2) := by decide +kernel
theorem dX2_bestRows_101 : decode cX2_bestRows 101 = .ok (.iload 4, 2) := by decide +kernel
theorem dX2_bestRows_103 : decode cX2_bestRows 103 = .ok (.if_icmp .ge 10, 3) := by decide +kernel
theorem dX2_bestRows_106 : decode cX2_bestRows 106 = .ok (.iload 7, 2) := by decide +kernel
theorem dX2_bestRows_108 : decode cX2_bestRows 108 = .ok (.istore 4, 2) := by decide +kernel
theorem dX2_bestRows_110 : decode cX2_bestRows 110 = .ok (.iload 6, 2) := by decide +kernel
theorem dX2_bestRows_112 : decode cX2_bestRows 112 = .ok (.istore_n 3, 1) := by decide +kernel
theorem dX2_bestRows_113 : decode cX2_bestRows 113 = .ok (.iinc 5 1, 3) := by decide +kernel
theorem dX2_bestRows_116 : decode cX2_bestRows 116 = .ok (.goto (-82), 3) := by decide +kernel
theorem dX2_bestRows_119 : decode cX2_bestRows 119 = .ok (.iload_n 1, 1) := by decide +kernel
theorem dX2_bestRows_120 : decode cX2_bestRows 120 = .ok (.ifCond .eq 7, 3) := by decide +kernel
theorem dX2_bestRows_123 : decode cX2_bestRows 123 = .ok (.iload_n 3, 1) := by decide +kernel
theorem dX2_bestRows_124 : decode cX2_bestRows 124 = .ok (.goto 5, 3) := by decide +kernel
theorem dX2_bestRows_127 : decode cX2_bestRows 127 = .ok (.iload 4, 2) := by decide +kernel
theorem dX2_bestRows_129 : decode cX2_bestRows 129 = .ok (.ireturn, 1) := by decide +kernel
theorem dX2_sendAll_0 : decode cX2_sendAll 0 = .ok (.iconst 0, 1) := by decide +kernel
theorem dX2_sendAll_1 : decode cX2_sendAll 1 = .ok (.istore_n 2, 1) := by decide +kernel
theorem dX2_sendAll_2 : decode cX2_sendAll 2 = .ok (.iconst 1, 1) := by decide +kernel
theorem dX2_sendAll_3 : decode cX2_sendAll 3 = .ok (.istore_n 3, 1) := by decide +kernel
theorem dX2_sendAll_4 : decode cX2_sendAll 4 = .ok (.iload_n 1, 1) := by decide +kernel
theorem dX2_sendAll_5 : decode cX2_sendAll 5 = .ok (.istore 4, 2) := by decide +kernel
theorem dX2_sendAll_7 : decode cX2_sendAll 7 = .ok (.aload_n 0, 1) := by decide +kernel
theorem dX2_sendAll_8 : decode cX2_sendAll 8 = .ok (.getfield 24, 3) := by decide +kernel
theorem dX2_sendAll_11 : decode cX2_sendAll 11 = .ok (.getfield 59, 3) := by decide +kernel
theorem dX2_sendAll_14 : decode cX2_sendAll 14 = .ok (.iconst 1, 1) := by decide +kernel
theorem dX2_sendAll_15 : decode cX2_sendAll 15 = .ok (.isub, 1) := by decide +kernel
theorem dX2_sendAll_16 : decode cX2_sendAll 16 = .ok (.istore 5, 2) := by decide +kernel
theorem dX2_sendAll_18 : decode cX2_sendAll 18 = .ok (.iload 5, 2) := by decide +kernel
theorem dX2_sendAll_20 : decode cX2_sendAll 20 = .ok (.ifCond .lt 44, 3) := by decide +kernel
theorem dX2_sendAll_23 : decode cX2_sendAll 23 = .ok (.aload_n 0, 1) := by decide +kernel
theorem dX2_sendAll_24 : decode cX2_sendAll 24 = .ok (.getfield 37, 3) := by decide +kernel
theorem dX2_sendAll_27 : decode cX2_sendAll 27 = .ok (.iload 5, 2) := by decide +kernel
theorem dX2_sendAll_29 : decode cX2_sendAll 29 = .ok (.iload 4, 2) := by decide +kernel
theorem dX2_sendAll_31 : decode cX2_sendAll 31 = .ok (.iconst 3, 1) := by decide +kernel
theorem dX2_sendAll_32 : decode cX2_sendAll 32 = .ok (.irem, 1) := by decide +kernel
theorem dX2_sendAll_33 : decode cX2_sendAll 33 = .ok (.invokevirtual 71, 3) := by decide +kernel
theorem dX2_sendAll_36 : decode cX2_sendAll 36 = .ok (.iload_n 2, 1) := by decide +kernel
theorem dX2_sendAll_37 : decode cX2_sendAll 37 = .ok (.iload 4, 2) := by decide +kernel
theorem dX2_sendAll_39 : decode cX2_sendAll 39 = .ok (.iconst 3, 1) := by decide +kernel
theorem dX2_sendAll_40 : decode cX2_sendAll 40 = .ok (.irem, 1) := by decide +kernel
theorem dX2_sendAll_41 : decode cX2_sendAll 41 = .ok (.iconst 1, 1) := by decide +kernel
theorem dX2_sendAll_42 : decode cX2_sendAll 42 = .ok (.iadd, 1) := by decide +kernel
theorem dX2_sendAll_43 : decode cX2_sendAll 43 = .ok (.iload_n 3, 1) := by decide +kernel
theorem dX2_sendAll_44 : decode cX2_sendAll 44 = .ok (.imul, 1) := by decide +kernel
theorem dX2_sendAll_45 : decode cX2_sendAll 45 = .ok (.iadd, 1) := by decide +kernel
theorem dX2_sendAll_46 : decode cX2_sendAll 46 = .ok (.istore_n 2, 1) := by decide +kernel
theorem dX2_sendAll_47 : decode cX2_sendAll 47 = .ok (.iload 4, 2) := by decide +kernel
theorem dX2_sendAll_49 : decode cX2_sendAll 49 = .ok (.iconst 3, 1) := by decide +kernel
theorem dX2_sendAll_50 : decode cX2_sendAll 50 = .ok (.idiv, 1) := by decide +kernel
theorem dX2_sendAll_51 : decode cX2_sendAll 51 = .ok (.istore 4, 2) := by decide +kernel
theorem dX2_sendAll_53 : decode cX2_sendAll 53 = .ok (.iload_n 3, 1) := by decide +kernel
theorem dX2_sendAll_54 : decode cX2_sendAll 54 = .ok (.bipush 10, 2) := by decide +kernel
theorem dX2_sendAll_56 : decode cX2_sendAll 56 = .ok (.imul, 1) := by decide +kernel
theorem dX2_sendAll_57 : decode cX2_sendAll 57 = .ok (.istore_n 3, 1) := by decide +kernel
theorem dX2_sendAll_58 : decode cX2_sendAll 58 = .ok (.iinc 5 (-1), 3) := by decide +kernel
theorem dX2_sendAll_61 : decode cX2_sendAll 61 = .ok (.goto (-43), 3) := by decide +kernel
theorem dX2_sendAll_64 : decode cX2_sendAll 64 = .ok (.iload_n 2, 1) := by decide +kernel
theorem dX2_sendAll_65 : decode cX2_sendAll 65 = .ok (.ireturn, 1) := by decide +kernel
theorem dX2_safestHole_0 : decode cX2_safestHole 0 = .ok (.bipush (-9), 2) := by decide +kernel
theorem dX2_safestHole_2 : decode cX2_safestHole 2 = .ok (.istore_n 2, 1) := by decide +kernel
theorem dX2_safestHole_3 : decode cX2_safestHole 3 = .ok (.iconst 0, 1) := by decide +kernel
theorem dX2_safestHole_4 : decode cX2_safestHole 4 = .ok (.istore_n 3, 1) := by decide +kernel
theorem dX2_safestHole_5 : decode cX2_safestHole 5 = .ok (.iconst 0, 1) := by decide +kernel
theorem dX2_safestHole_6 : decode cX2_safestHole 6 = .ok (.istore 4, 2) := by decide +kernel
theorem dX2_safestHole_8 : decode cX2_safestHole 8 = .ok (.iload 4, 2) := by decide +kernel
theorem dX2_safestHole_10 : decode cX2_safestHole 10 = .ok (.bipush 12, 2) := by decide +kernel
theorem dX2_safestHole_12 : decode cX2_safestHole 12 = .ok (.if_icmp .ge 62, 3) := by decide +kernel
theorem dX2_safestHole_15 : decode cX2_safestHole 15 = .ok (.iload 4, 2) := by decide +kernel
theorem dX2_safestHole_17 : decode cX2_safestHole 17 = .ok (.aload_n 0, 1) := by decide +kernel
theorem dX2_safestHole_18 : decode cX2_safestHole 18 = .ok (.getfield 28, 3) := by decide +kernel
theorem dX2_safestHole_21 : decode cX2_safestHole 21 = .ok (.iload_n 1, 1) := by decide +kernel
theorem dX2_safestHole_22 : decode cX2_safestHole 22 = .ok (.invokevirtual 74, 3) := by decide +kernel
theorem dX2_safestHole_25 : decode cX2_safestHole 25 = .ok (.if_icmp .eq 16, 3) := by decide +kernel
theorem dX2_safestHole_28 : decode cX2_safestHole 28 = .ok (.aload_n 0, 1) := by decide +kernel
theorem dX2_safestHole_29 : decode cX2_safestHole 29 = .ok (.getfield 28, 3) := by decide +kernel
theorem dX2_safestHole_32 : decode cX2_safestHole 32 = .ok (.iload_n 1, 1) := by decide +kernel
theorem dX2_safestHole_33 : decode cX2_safestHole 33 = .ok (.iload 4, 2) := by decide +kernel
theorem dX2_safestHole_35 : decode cX2_safestHole 35 = .ok (.invokevirtual 77, 3) := by decide +kernel
theorem dX2_safestHole_38 : decode cX2_safestHole 38 = .ok (.ifCond .eq 30, 3) := by decide +kernel
theorem dX2_safestHole_41 : decode cX2_safestHole 41 = .ok (.aload_n 0, 1) := by decide +kernel
theorem dX2_safestHole_42 : decode cX2_safestHole 42 = .ok (.iload_n 1, 1) := by decide +kernel
theorem dX2_safestHole_43 : decode cX2_safestHole 43 = .ok (.iload 4, 2) := by decide +kernel
theorem dX2_safestHole_45 : decode cX2_safestHole 45 = .ok (.invokevirtual 81, 3) := by decide +kernel
theorem dX2_safestHole_48 : decode cX2_safestHole 48 = .ok (.istore 5, 2) := by decide +kernel
theorem dX2_safestHole_50 : decode cX2_safestHole 50 = .ok (.iload_n 2, 1) := by decide +kernel
theorem dX2_safestHole_51 : decode cX2_safestHole 51 = .ok (.bipush (-9), 2) := by decide +kernel
theorem dX2_safestHole_53 : decode cX2_safestHole 53 = .ok (.if_icmp .eq 9, 3) := by decide +kernel
theorem dX2_safestHole_56 : decode cX2_safestHole 56 = .ok (.iload 5, 2) := by decide +kernel
theorem dX2_safestHole_58 : decode cX2_safestHole 58 = .ok (.iload_n 3, 1) := by decide +kernel
theorem dX2_safestHole_59 : decode cX2_safestHole 59 = .ok (.if_icmp .le 9, 3) := by decide +kernel
theorem dX2_safestHole_62 : decode cX2_safestHole 62 = .ok (.iload 4, 2) := by decide +kernel
theorem dX2_safestHole_64 : decode cX2_safestHole 64 = .ok (.istore_n 2, 1) := by decide +kernel
theorem dX2_safestHole_65 : decode cX2_safestHole 65 = .ok (.iload 5, 2) := by decide +kernel
theorem dX2_safestHole_67 : decode cX2_safestHole 67 = .ok (.istore_n 3, 1) := by decide +kernel
theorem dX2_safestHole_68 : decode cX2_safestHole 68 = .ok (.iinc 4 1, 3) := by decide +kernel
theorem dX2_safestHole_71 : decode cX2_safestHole 71 = .ok (.goto (-63), 3) := by decide +kernel
theorem dX2_safestHole_74 : decode cX2_safestHole 74 = .ok (.iload_n 2, 1) := by decide +kernel
theorem dX2_safestHole_75 : decode cX2_safestHole 75 = .ok (.ireturn, 1) := by decide +kernel
theorem dX2_fewestForQuiet_0 : decode cX2_fewestForQuiet 0 = .ok (.aload_n 0, 1) := by decide +kernel
theorem dX2_fewestForQuiet_1 : decode cX2_fewestForQuiet 1 = .ok (.getfield 28, 3) := by decide +kernel
theorem dX2_fewestForQuiet_4 : decode cX2_fewestForQuiet 4 = .ok (.iconst 0, 1) := by decide +kernel
theorem dX2_fewestForQuiet_5 : decode cX2_fewestForQuiet 5 = .ok (.invokevirtual 48, 3) := by decide +kernel
theorem dX2_fewestForQuiet_8 : decode cX2_fewestForQuiet 8 = .ok (.istore_n 1, 1) := by decide +kernel
theorem dX2_fewestForQuiet_9 : decode cX2_fewestForQuiet 9 = .ok (.iconst 0, 1) := by decide +kernel
theorem dX2_fewestForQuiet_10 : decode cX2_fewestForQuiet 10 = .ok (.istore_n 2, 1) := by decide +kernel
theorem dX2_fewestForQuiet_11 : decode cX2_fewestForQuiet 11 = .ok (.iload_n 2, 1) := by decide +kernel
theorem dX2_fewestForQuiet_12 : decode cX2_fewestForQuiet 12 = .ok (.bipush 6, 2) := by decide +kernel
theorem dX2_fewestForQuiet_14 : decode cX2_fewestForQuiet 14 = .ok (.if_icmp .ge 48, 3) := by decide +kernel
theorem dX2_fewestForQuiet_17 : decode cX2_fewestForQuiet 17 = .ok (.iconst 0, 1) := by decide +kernel
theorem dX2_fewestForQuiet_18 : decode cX2_fewestForQuiet 18 = .ok (.istore_n 3, 1) := by decide +kernel
theorem dX2_fewestForQuiet_19 : decode cX2_fewestForQuiet 19 = .ok (.iload_n 3, 1) := by decide +kernel
theorem dX2_fewestForQuiet_20 : decode cX2_fewestForQuiet 20 = .ok (.iload_n 1, 1) := by decide +kernel
theorem dX2_fewestForQuiet_21 : decode cX2_fewestForQuiet 21 = .ok (.if_icmp .gt 35, 3) := by decide +kernel
theorem dX2_fewestForQuiet_24 : decode cX2_fewestForQuiet 24 = .ok (.iload_n 3, 1) := by decide +kernel
theorem dX2_fewestForQuiet_25 : decode cX2_fewestForQuiet 25 = .ok (.iload_n 1, 1) := by decide +kernel
theorem dX2_fewestForQuiet_26 : decode cX2_fewestForQuiet 26 = .ok (.iconst (-1), 1) := by decide +kernel
theorem dX2_fewestForQuiet_27 : decode cX2_fewestForQuiet 27 = .ok (.ixor, 1) := by decide +kernel
theorem dX2_fewestForQuiet_28 : decode cX2_fewestForQuiet 28 = .ok (.iand, 1) := by decide +kernel
theorem dX2_fewestForQuiet_29 : decode cX2_fewestForQuiet 29 = .ok (.ifCond .ne 21, 3) := by decide +kernel
theorem dX2_fewestForQuiet_32 : decode cX2_fewestForQuiet 32 = .ok (.iload_n 3, 1) := by decide +kernel
theorem dX2_fewestForQuiet_33 : decode cX2_fewestForQuiet 33 = .ok (.invokestatic 85, 3) := by decide +kernel
theorem dX2_fewestForQuiet_36 : decode cX2_fewestForQuiet 36 = .ok (.iload_n 2, 1) := by decide +kernel
theorem dX2_fewestForQuiet_37 : decode cX2_fewestForQuiet 37 = .ok (.if_icmp .ne 13, 3) := by decide +kernel
theorem dX2_fewestForQuiet_40 : decode cX2_fewestForQuiet 40 = .ok (.aload_n 0, 1) := by decide +kernel
theorem dX2_fewestForQuiet_41 : decode cX2_fewestForQuiet 41 = .ok (.iload_n 3, 1) := by decide +kernel
theorem dX2_fewestForQuiet_42 : decode cX2_fewestForQuiet 42 = .ok (.invokevirtual 90, 3) := by decide +kernel
theorem dX2_fewestForQuiet_45 : decode cX2_fewestForQuiet 45 = .ok (.ifCond .eq 5, 3) := by decide +kernel
theorem dX2_fewestForQuiet_48 : decode cX2_fewestForQuiet 48 = .ok (.iload_n 3, 1) := by decide +kernel
theorem dX2_fewestForQuiet_49 : decode cX2_fewestForQuiet 49 = .ok (.ireturn, 1) := by decide +kernel
theorem dX2_fewestForQuiet_50 : decode cX2_fewestForQuiet 50 = .ok (.iinc 3 1, 3) := by decide +kernel
theorem dX2_fewestForQuiet_53 : decode cX2_fewestForQuiet 53 = .ok (.goto (-34), 3) := by decide +kernel
theorem dX2_fewestForQuiet_56 : decode cX2_fewestForQuiet 56 = .ok (.iinc 2 1, 3) := by decide +kernel
theorem dX2_fewestForQuiet_59 : decode cX2_fewestForQuiet 59 = .ok (.goto (-48), 3) := by decide +kernel
theorem dX2_fewestForQuiet_62 : decode cX2_fewestForQuiet 62 = .ok (.iload_n 1, 1) := by decide +kernel
theorem dX2_fewestForQuiet_63 : decode cX2_fewestForQuiet 63 = .ok (.ireturn, 1) := by decide +kernel
theorem dX2_isQuiet_0 : decode cX2_isQuiet 0 = .ok (.aload_n 0, 1) := by decide +kernel
theorem dX2_isQuiet_1 : decode cX2_isQuiet 1 = .ok (.getfield 37, 3) := by decide +kernel
theorem dX2_isQuiet_4 : decode cX2_isQuiet 4 = .ok (.aload_n 0, 1) := by decide +kernel
theorem dX2_isQuiet_5 : decode cX2_isQuiet 5 = .ok (.getfield 28, 3) := by decide +kernel
theorem dX2_isQuiet_8 : decode cX2_isQuiet 8 = .ok (.invokevirtual 40, 3) := by decide +kernel
theorem dX2_isQuiet_11 : decode cX2_isQuiet 11 = .ok (.iconst 0, 1) := by decide +kernel
theorem dX2_isQuiet_12 : decode cX2_isQuiet 12 = .ok (.istore_n 2, 1) := by decide +kernel
theorem dX2_isQuiet_13 : decode cX2_isQuiet 13 = .ok (.iload_n 2, 1) := by decide +kernel
theorem dX2_isQuiet_14 : decode cX2_isQuiet 14 = .ok (.aload_n 0, 1) := by decide +kernel
theorem dX2_isQuiet_15 : decode cX2_isQuiet 15 = .ok (.getfield 24, 3) := by decide +kernel
theorem dX2_isQuiet_18 : decode cX2_isQuiet 18 = .ok (.getfield 94, 3) := by decide +kernel
theorem dX2_isQuiet_21 : decode cX2_isQuiet 21 = .ok (.if_icmp .ge 25, 3) := by decide +kernel
theorem dX2_isQuiet_24 : decode cX2_isQuiet 24 = .ok (.iload_n 1, 1) := by decide +kernel
theorem dX2_isQuiet_25 : decode cX2_isQuiet 25 = .ok (.iload_n 2, 1) := by decide +kernel
theorem dX2_isQuiet_26 : decode cX2_isQuiet 26 = .ok (.ishr, 1) := by decide +kernel
theorem dX2_isQuiet_27 : decode cX2_isQuiet 27 = .ok (.iconst 1, 1) := by decide +kernel
theorem dX2_isQuiet_28 : decode cX2_isQuiet 28 = .ok (.iand, 1) := by decide +kernel
theorem dX2_isQuiet_29 : decode cX2_isQuiet 29 = .ok (.ifCond .eq 11, 3) := by decide +kernel
theorem dX2_isQuiet_32 : decode cX2_isQuiet 32 = .ok (.aload_n 0, 1) := by decide +kernel
theorem dX2_isQuiet_33 : decode cX2_isQuiet 33 = .ok (.getfield 37, 3) := by decide +kernel
theorem dX2_isQuiet_36 : decode cX2_isQuiet 36 = .ok (.iload_n 2, 1) := by decide +kernel
theorem dX2_isQuiet_37 : decode cX2_isQuiet 37 = .ok (.invokevirtual 97, 3) := by decide +kernel
theorem dX2_isQuiet_40 : decode cX2_isQuiet 40 = .ok (.iinc 2 1, 3) := by decide +kernel
theorem dX2_isQuiet_43 : decode cX2_isQuiet 43 = .ok (.goto (-30), 3) := by decide +kernel
theorem dX2_isQuiet_46 : decode cX2_isQuiet 46 = .ok (.iconst 0, 1) := by decide +kernel
theorem dX2_isQuiet_47 : decode cX2_isQuiet 47 = .ok (.istore_n 2, 1) := by decide +kernel
theorem dX2_isQuiet_48 : decode cX2_isQuiet 48 = .ok (.iload_n 2, 1) := by decide +kernel
theorem dX2_isQuiet_49 : decode cX2_isQuiet 49 = .ok (.bipush 9, 2) := by decide +kernel
theorem dX2_isQuiet_51 : decode cX2_isQuiet 51 = .ok (.if_icmp .ge 21, 3) := by decide +kernel
theorem dX2_isQuiet_54 : decode cX2_isQuiet 54 = .ok (.aload_n 0, 1) := by decide +kernel
theorem dX2_isQuiet_55 : decode cX2_isQuiet 55 = .ok (.getfield 37, 3) := by decide +kernel
theorem dX2_isQuiet_58 : decode cX2_isQuiet 58 = .ok (.invokevirtual 44, 3) := by decide +kernel
theorem dX2_isQuiet_61 : decode cX2_isQuiet 61 = .ok (.ifCond .le 5, 3) := by decide +kernel
theorem dX2_isQuiet_64 : decode cX2_isQuiet 64 = .ok (.iconst 0, 1) := by decide +kernel
theorem dX2_isQuiet_65 : decode cX2_isQuiet 65 = .ok (.ireturn, 1) := by decide +kernel
theorem dX2_isQuiet_66 : decode cX2_isQuiet 66 = .ok (.iinc 2 1, 3) := by decide +kernel
theorem dX2_isQuiet_69 : decode cX2_isQuiet 69 = .ok (.goto (-21), 3) := by decide +kernel
theorem dX2_isQuiet_72 : decode cX2_isQuiet 72 = .ok (.iconst 1, 1) := by decide +kernel
theorem dX2_isQuiet_73 : decode cX2_isQuiet 73 = .ok (.ireturn, 1) := by decide +kernel
theorem dX2_firstThatCanNotBe_0 : decode cX2_firstThatCanNotBe 0 = .ok (.iload_n 1, 1) := by decide +kernel
theorem dX2_firstThatCanNotBe_1 : decode cX2_firstThatCanNotBe 1 = .ok (.iconst 4, 1) := by decide +kernel
theorem dX2_firstThatCanNotBe_2 : decode cX2_firstThatCanNotBe 2 = .ok (.invokestatic 101, 3) := by decide +kernel
theorem dX2_firstThatCanNotBe_5 : decode cX2_firstThatCanNotBe 5 = .ok (.istore 4, 2) := by decide +kernel
theorem dX2_firstThatCanNotBe_7 : decode cX2_firstThatCanNotBe 7 = .ok (.lload_n 2, 1) := by decide +kernel
theorem dX2_firstThatCanNotBe_8 : decode cX2_firstThatCanNotBe 8 = .ok (.lstore 5, 2) := by decide +kernel
theorem dX2_firstThatCanNotBe_10 : decode cX2_firstThatCanNotBe 10 = .ok (.iload 4, 2) := by decide +kernel
theorem dX2_firstThatCanNotBe_12 : decode cX2_firstThatCanNotBe 12 = .ok (.iconst 1, 1) := by decide +kernel
theorem dX2_firstThatCanNotBe_13 : decode cX2_firstThatCanNotBe 13 = .ok (.isub, 1) := by decide +kernel
theorem dX2_firstThatCanNotBe_14 : decode cX2_firstThatCanNotBe 14 = .ok (.istore 7, 2) := by decide +kernel
theorem dX2_firstThatCanNotBe_16 : decode cX2_firstThatCanNotBe 16 = .ok (.iload 7, 2) := by decide +kernel
theorem dX2_firstThatCanNotBe_18 : decode cX2_firstThatCanNotBe 18 = .ok (.ifCond .lt 31, 3) := by decide +kernel
theorem dX2_firstThatCanNotBe_21 : decode cX2_firstThatCanNotBe 21 = .ok (.aload_n 0, 1) := by decide +kernel
theorem dX2_firstThatCanNotBe_22 : decode cX2_firstThatCanNotBe 22 = .ok (.getfield 9, 3) := by decide +kernel
theorem dX2_firstThatCanNotBe_25 : decode cX2_firstThatCanNotBe 25 = .ok (.iload 7, 2) := by decide +kernel
theorem dX2_firstThatCanNotBe_27 : decode cX2_firstThatCanNotBe 27 = .ok (.lload 5, 2) := by decide +kernel
theorem dX2_firstThatCanNotBe_29 : decode cX2_firstThatCanNotBe 29 = .ok (.ldc2_w 106, 3) := by decide +kernel
theorem dX2_firstThatCanNotBe_32 : decode cX2_firstThatCanNotBe 32 = .ok (.lrem, 1) := by decide +kernel
theorem dX2_firstThatCanNotBe_33 : decode cX2_firstThatCanNotBe 33 = .ok (.l2i, 1) := by decide +kernel
theorem dX2_firstThatCanNotBe_34 : decode cX2_firstThatCanNotBe 34 = .ok (.iastore, 1) := by decide +kernel
theorem dX2_firstThatCanNotBe_35 : decode cX2_firstThatCanNotBe 35 = .ok (.lload 5, 2) := by decide +kernel
theorem dX2_firstThatCanNotBe_37 : decode cX2_firstThatCanNotBe 37 = .ok (.ldc2_w 106, 3) := by decide +kernel
theorem dX2_firstThatCanNotBe_40 : decode cX2_firstThatCanNotBe 40 = .ok (.ldiv, 1) := by decide +kernel
theorem dX2_firstThatCanNotBe_41 : decode cX2_firstThatCanNotBe 41 = .ok (.lstore 5, 2) := by decide +kernel
theorem dX2_firstThatCanNotBe_43 : decode cX2_firstThatCanNotBe 43 = .ok (.iinc 7 (-1), 3) := by decide +kernel
