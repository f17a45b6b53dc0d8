theorem dX7_fits_0 : decode cX7_fits 0 = .ok (.iconst 0, 1) := by decide +kernel
theorem dX7_fits_1 : decode cX7_fits 1 = .ok (.istore_n 2, 1) := by decide +kernel
theorem dX7_fits_2 : decode cX7_fits 2 = .ok (.iload_n 2, 1) := by decide +kernel
theorem dX7_fits_3 : decode cX7_fits 3 = .ok (.aload_n 0, 1) := by decide +kernel
theorem dX7_fits_4 : decode cX7_fits 4 = .ok (.getfield 19, 3) := by decide +kernel
theorem dX7_fits_7 : decode cX7_fits 7 = .ok (.if_icmp .ge 35, 3) := by decide +kernel
theorem dX7_fits_10 : decode cX7_fits 10 = .ok (.aload_n 0, 1) := by decide +kernel
theorem dX7_fits_11 : decode cX7_fits 11 = .ok (.getfield 9, 3) := by decide +kernel
theorem dX7_fits_14 : decode cX7_fits 14 = .ok (.iload_n 2, 1) := by decide +kernel
theorem dX7_fits_15 : decode cX7_fits 15 = .ok (.iaload, 1) := by decide +kernel
theorem dX7_fits_16 : decode cX7_fits 16 = .ok (.iload_n 1, 1) := by decide +kernel
theorem dX7_fits_17 : decode cX7_fits 17 = .ok (.if_icmp .lt 7, 3) := by decide +kernel
theorem dX7_fits_20 : decode cX7_fits 20 = .ok (.iconst 1, 1) := by decide +kernel
theorem dX7_fits_21 : decode cX7_fits 21 = .ok (.goto 4, 3) := by decide +kernel
theorem dX7_fits_24 : decode cX7_fits 24 = .ok (.iconst 0, 1) := by decide +kernel
theorem dX7_fits_25 : decode cX7_fits 25 = .ok (.aload_n 0, 1) := by decide +kernel
theorem dX7_fits_26 : decode cX7_fits 26 = .ok (.getfield 15, 3) := by decide +kernel
theorem dX7_fits_29 : decode cX7_fits 29 = .ok (.iload_n 2, 1) := by decide +kernel
theorem dX7_fits_30 : decode cX7_fits 30 = .ok (.baload, 1) := by decide +kernel
theorem dX7_fits_31 : decode cX7_fits 31 = .ok (.if_icmp .eq 5, 3) := by decide +kernel
theorem dX7_fits_34 : decode cX7_fits 34 = .ok (.iconst 0, 1) := by decide +kernel
theorem dX7_fits_35 : decode cX7_fits 35 = .ok (.ireturn, 1) := by decide +kernel
theorem dX7_fits_36 : decode cX7_fits 36 = .ok (.iinc 2 1, 3) := by decide +kernel
theorem dX7_fits_39 : decode cX7_fits 39 = .ok (.goto (-37), 3) := by decide +kernel
theorem dX7_fits_42 : decode cX7_fits 42 = .ok (.iconst 1, 1) := by decide +kernel
theorem dX7_fits_43 : decode cX7_fits 43 = .ok (.ireturn, 1) := by decide +kernel
theorem dX8_init_0 : decode cX8_init 0 = .ok (.aload_n 0, 1) := by decide +kernel
theorem dX8_init_1 : decode cX8_init 1 = .ok (.invokespecial 1, 3) := by decide +kernel
theorem dX8_init_4 : decode cX8_init 4 = .ok (.aload_n 0, 1) := by decide +kernel
theorem dX8_init_5 : decode cX8_init 5 = .ok (.new 7, 3) := by decide +kernel
theorem dX8_init_8 : decode cX8_init 8 = .ok (.dup, 1) := by decide +kernel
theorem dX8_init_9 : decode cX8_init 9 = .ok (.invokespecial 9, 3) := by decide +kernel
theorem dX8_init_12 : decode cX8_init 12 = .ok (.putfield 10, 3) := by decide +kernel
theorem dX8_init_15 : decode cX8_init 15 = .ok (.aload_n 0, 1) := by decide +kernel
theorem dX8_init_16 : decode cX8_init 16 = .ok (.new 16, 3) := by decide +kernel
theorem dX8_init_19 : decode cX8_init 19 = .ok (.dup, 1) := by decide +kernel
theorem dX8_init_20 : decode cX8_init 20 = .ok (.invokespecial 18, 3) := by decide +kernel
theorem dX8_init_23 : decode cX8_init 23 = .ok (.putfield 19, 3) := by decide +kernel
theorem dX8_init_26 : decode cX8_init 26 = .ok (.aload_n 0, 1) := by decide +kernel
theorem dX8_init_27 : decode cX8_init 27 = .ok (.new 23, 3) := by decide +kernel
theorem dX8_init_30 : decode cX8_init 30 = .ok (.dup, 1) := by decide +kernel
theorem dX8_init_31 : decode cX8_init 31 = .ok (.aload_n 0, 1) := by decide +kernel
theorem dX8_init_32 : decode cX8_init 32 = .ok (.getfield 19, 3) := by decide +kernel
theorem dX8_init_35 : decode cX8_init 35 = .ok (.invokespecial 25, 3) := by decide +kernel
theorem dX8_init_38 : decode cX8_init 38 = .ok (.putfield 28, 3) := by decide +kernel
theorem dX8_init_41 : decode cX8_init 41 = .ok (.aload_n 0, 1) := by decide +kernel
theorem dX8_init_42 : decode cX8_init 42 = .ok (.new 32, 3) := by decide +kernel
theorem dX8_init_45 : decode cX8_init 45 = .ok (.dup, 1) := by decide +kernel
theorem dX8_init_46 : decode cX8_init 46 = .ok (.aload_n 0, 1) := by decide +kernel
theorem dX8_init_47 : decode cX8_init 47 = .ok (.getfield 19, 3) := by decide +kernel
theorem dX8_init_50 : decode cX8_init 50 = .ok (.aload_n 0, 1) := by decide +kernel
theorem dX8_init_51 : decode cX8_init 51 = .ok (.getfield 28, 3) := by decide +kernel
theorem dX8_init_54 : decode cX8_init 54 = .ok (.invokespecial 34, 3) := by decide +kernel
theorem dX8_init_57 : decode cX8_init 57 = .ok (.putfield 37, 3) := by decide +kernel
theorem dX8_init_60 : decode cX8_init 60 = .ok (.aload_n 0, 1) := by decide +kernel
theorem dX8_init_61 : decode cX8_init 61 = .ok (.new 41, 3) := by decide +kernel
theorem dX8_init_64 : decode cX8_init 64 = .ok (.dup, 1) := by decide +kernel
theorem dX8_init_65 : decode cX8_init 65 = .ok (.invokespecial 43, 3) := by decide +kernel
theorem dX8_init_68 : decode cX8_init 68 = .ok (.putfield 44, 3) := by decide +kernel
theorem dX8_init_71 : decode cX8_init 71 = .ok (.aload_n 0, 1) := by decide +kernel
theorem dX8_init_72 : decode cX8_init 72 = .ok (.new 48, 3) := by decide +kernel
theorem dX8_init_75 : decode cX8_init 75 = .ok (.dup, 1) := by decide +kernel
theorem dX8_init_76 : decode cX8_init 76 = .ok (.iconst 2, 1) := by decide +kernel
theorem dX8_init_77 : decode cX8_init 77 = .ok (.invokespecial 50, 3) := by decide +kernel
theorem dX8_init_80 : decode cX8_init 80 = .ok (.putfield 53, 3) := by decide +kernel
theorem dX8_init_83 : decode cX8_init 83 = .ok (.aload_n 0, 1) := by decide +kernel
theorem dX8_init_84 : decode cX8_init 84 = .ok (.iconst 2, 1) := by decide +kernel
theorem dX8_init_85 : decode cX8_init 85 = .ok (.newarray .boolean, 2) := by decide +kernel
theorem dX8_init_87 : decode cX8_init 87 = .ok (.putfield 57, 3) := by decide +kernel
theorem dX8_init_90 : decode cX8_init 90 = .ok (.aload_n 0, 1) := by decide +kernel
theorem dX8_init_91 : decode cX8_init 91 = .ok (.new 61, 3) := by decide +kernel
theorem dX8_init_94 : decode cX8_init 94 = .ok (.dup, 1) := by decide +kernel
theorem dX8_init_95 : decode cX8_init 95 = .ok (.invokespecial 63, 3) := by decide +kernel
theorem dX8_init_98 : decode cX8_init 98 = .ok (.putfield 64, 3) := by decide +kernel
theorem dX8_init_101 : decode cX8_init 101 = .ok (.aload_n 0, 1) := by decide +kernel
theorem dX8_init_102 : decode cX8_init 102 = .ok (.new 68, 3) := by decide +kernel
theorem dX8_init_105 : decode cX8_init 105 = .ok (.dup, 1) := by decide +kernel
theorem dX8_init_106 : decode cX8_init 106 = .ok (.invokespecial 70, 3) := by decide +kernel
theorem dX8_init_109 : decode cX8_init 109 = .ok (.putfield 71, 3) := by decide +kernel
theorem dX8_init_112 : decode cX8_init 112 = .ok (.return_, 1) := by decide +kernel
theorem dX8_write_0 : decode cX8_write 0 = .ok (.iload_n 1, 1) := by decide +kernel
theorem dX8_write_1 : decode cX8_write 1 = .ok (.ifCond .lt 10, 3) := by decide +kernel
theorem dX8_write_4 : decode cX8_write 4 = .ok (.iload_n 1, 1) := by decide +kernel
theorem dX8_write_5 : decode cX8_write 5 = .ok (.sipush 255, 3) := by decide +kernel
theorem dX8_write_8 : decode cX8_write 8 = .ok (.if_icmp .le 6, 3) := by decide +kernel
theorem dX8_write_11 : decode cX8_write 11 = .ok (.bipush (-2), 2) := by decide +kernel
theorem dX8_write_13 : decode cX8_write 13 = .ok (.ireturn, 1) := by decide +kernel
theorem dX8_write_14 : decode cX8_write 14 = .ok (.aload_n 0, 1) := by decide +kernel
theorem dX8_write_15 : decode cX8_write 15 = .ok (.getfield 10, 3) := by decide +kernel
theorem dX8_write_18 : decode cX8_write 18 = .ok (.iload_n 1, 1) := by decide +kernel
theorem dX8_write_19 : decode cX8_write 19 = .ok (.invokevirtual 75, 3) := by decide +kernel
theorem dX8_write_22 : decode cX8_write 22 = .ok (.ireturn, 1) := by decide +kernel
theorem dX8_wipe_0 : decode cX8_wipe 0 = .ok (.aload_n 0, 1) := by decide +kernel
theorem dX8_wipe_1 : decode cX8_wipe 1 = .ok (.getfield 10, 3) := by decide +kernel
theorem dX8_wipe_4 : decode cX8_wipe 4 = .ok (.invokevirtual 79, 3) := by decide +kernel
theorem dX8_wipe_7 : decode cX8_wipe 7 = .ok (.ireturn, 1) := by decide +kernel
theorem dX8_fault_0 : decode cX8_fault 0 = .ok (.aload_n 0, 1) := by decide +kernel
theorem dX8_fault_1 : decode cX8_fault 1 = .ok (.getfield 10, 3) := by decide +kernel
theorem dX8_fault_4 : decode cX8_fault 4 = .ok (.invokevirtual 83, 3) := by decide +kernel
theorem dX8_fault_7 : decode cX8_fault 7 = .ok (.ireturn, 1) := by decide +kernel
theorem dX8_room_0 : decode cX8_room 0 = .ok (.aload_n 0, 1) := by decide +kernel
theorem dX8_room_1 : decode cX8_room 1 = .ok (.getfield 10, 3) := by decide +kernel
theorem dX8_room_4 : decode cX8_room 4 = .ok (.invokevirtual 83, 3) := by decide +kernel
theorem dX8_room_7 : decode cX8_room 7 = .ok (.bipush (-9), 2) := by decide +kernel
theorem dX8_room_9 : decode cX8_room 9 = .ok (.if_icmp .eq 6, 3) := by decide +kernel
theorem dX8_room_12 : decode cX8_room 12 = .ok (.bipush (-3), 2) := by decide +kernel
theorem dX8_room_14 : decode cX8_room 14 = .ok (.ireturn, 1) := by decide +kernel
theorem dX8_room_15 : decode cX8_room 15 = .ok (.aload_n 0, 1) := by decide +kernel
theorem dX8_room_16 : decode cX8_room 16 = .ok (.getfield 10, 3) := by decide +kernel
theorem dX8_room_19 : decode cX8_room 19 = .ok (.aload_n 0, 1) := by decide +kernel
theorem dX8_room_20 : decode cX8_room 20 = .ok (.getfield 19, 3) := by decide +kernel
theorem dX8_room_23 : decode cX8_room 23 = .ok (.invokevirtual 86, 3) := by decide +kernel
theorem dX8_room_26 : decode cX8_room 26 = .ok (.pop, 1) := by decide +kernel
theorem dX8_room_27 : decode cX8_room 27 = .ok (.aload_n 0, 1) := by decide +kernel
theorem dX8_room_28 : decode cX8_room 28 = .ok (.getfield 28, 3) := by decide +kernel
theorem dX8_room_31 : decode cX8_room 31 = .ok (.invokevirtual 90, 3) := by decide +kernel
theorem dX8_room_34 : decode cX8_room 34 = .ok (.aload_n 0, 1) := by decide +kernel
theorem dX8_room_35 : decode cX8_room 35 = .ok (.getfield 44, 3) := by decide +kernel
theorem dX8_room_38 : decode cX8_room 38 = .ok (.invokevirtual 93, 3) := by decide +kernel
theorem dX8_room_41 : decode cX8_room 41 = .ok (.iconst 0, 1) := by decide +kernel
theorem dX8_room_42 : decode cX8_room 42 = .ok (.istore_n 1, 1) := by decide +kernel
theorem dX8_room_43 : decode cX8_room 43 = .ok (.iload_n 1, 1) := by decide +kernel
theorem dX8_room_44 : decode cX8_room 44 = .ok (.iconst 2, 1) := by decide +kernel
theorem dX8_room_45 : decode cX8_room 45 = .ok (.if_icmp .ge 16, 3) := by decide +kernel
theorem dX8_room_48 : decode cX8_room 48 = .ok (.aload_n 0, 1) := by decide +kernel
theorem dX8_room_49 : decode cX8_room 49 = .ok (.getfield 57, 3) := by decide +kernel
theorem dX8_room_52 : decode cX8_room 52 = .ok (.iload_n 1, 1) := by decide +kernel
theorem dX8_room_53 : decode cX8_room 53 = .ok (.iconst 0, 1) := by decide +kernel
theorem dX8_room_54 : decode cX8_room 54 = .ok (.bastore, 1) := by decide +kernel
theorem dX8_room_55 : decode cX8_room 55 = .ok (.iinc 1 1, 3) := by decide +kernel
theorem dX8_room_58 : decode cX8_room 58 = .ok (.goto (-15), 3) := by decide +kernel
theorem dX8_room_61 : decode cX8_room 61 = .ok (.bipush 10, 2) := by decide +kernel
theorem dX8_room_63 : decode cX8_room 63 = .ok (.aload_n 0, 1) := by decide +kernel
theorem dX8_room_64 : decode cX8_room 64 = .ok (.getfield 19, 3) := by decide +kernel
theorem dX8_room_67 : decode cX8_room 67 = .ok (.getfield 95, 3) := by decide +kernel
theorem dX8_room_70 : decode cX8_room 70 = .ok (.imul, 1) := by decide +kernel
theorem dX8_room_71 : decode cX8_room 71 = .ok (.aload_n 0, 1) := by decide +kernel
theorem dX8_room_72 : decode cX8_room 72 = .ok (.getfield 19, 3) := by decide +kernel
theorem dX8_room_75 : decode cX8_room 75 = .ok (.getfield 99, 3) := by decide +kernel
theorem dX8_room_78 : decode cX8_room 78 = .ok (.iadd, 1) := by decide +kernel
theorem dX8_room_79 : decode cX8_room 79 = .ok (.ireturn, 1) := by decide +kernel
theorem dX8_about_0 : decode cX8_about 0 = .ok (.iload_n 1, 1) := by decide +kernel
theorem dX8_about_1 : decode cX8_about 1 = .ok (.tableswitch 163 0 11 #[63, 71, 79, 87, 95, 104, 113, 122, 131, 139, 147, 155], 63) := by decide +kernel
theorem dX8_about_64 : decode cX8_about 64 = .ok (.aload_n 0, 1) := by decide +kernel
theorem dX8_about_65 : decode cX8_about 65 = .ok (.getfield 19, 3) := by decide +kernel
theorem dX8_about_68 : decode cX8_about 68 = .ok (.getfield 95, 3) := by decide +kernel
theorem dX8_about_71 : decode cX8_about 71 = .ok (.ireturn, 1) := by decide +kernel
theorem dX8_about_72 : decode cX8_about 72 = .ok (.aload_n 0, 1) := by decide +kernel
theorem dX8_about_73 : decode cX8_about 73 = .ok (.getfield 19, 3) := by decide +kernel
theorem dX8_about_76 : decode cX8_about 76 = .ok (.getfield 99, 3) := by decide +kernel
theorem dX8_about_79 : decode cX8_about 79 = .ok (.ireturn, 1) := by decide +kernel
theorem dX8_about_80 : decode cX8_about 80 = .ok (.aload_n 0, 1) := by decide +kernel
theorem dX8_about_81 : decode cX8_about 81 = .ok (.getfield 28, 3) := by decide +kernel
theorem dX8_about_84 : decode cX8_about 84 = .ok (.invokevirtual 102, 3) := by decide +kernel
theorem dX8_about_87 : decode cX8_about 87 = .ok (.ireturn, 1) := by decide +kernel
theorem dX8_about_88 : decode cX8_about 88 = .ok (.aload_n 0, 1) := by decide +kernel
theorem dX8_about_89 : decode cX8_about 89 = .ok (.getfield 28, 3) := by decide +kernel
theorem dX8_about_92 : decode cX8_about 92 = .ok (.invokevirtual 105, 3) := by decide +kernel
theorem dX8_about_95 : decode cX8_about 95 = .ok (.ireturn, 1) := by decide +kernel
theorem dX8_about_96 : decode cX8_about 96 = .ok (.aload_n 0, 1) := by decide +kernel
theorem dX8_about_97 : decode cX8_about 97 = .ok (.getfield 28, 3) := by decide +kernel
theorem dX8_about_100 : decode cX8_about 100 = .ok (.iconst 0, 1) := by decide +kernel
theorem dX8_about_101 : decode cX8_about 101 = .ok (.invokevirtual 108, 3) := by decide +kernel
theorem dX8_about_104 : decode cX8_about 104 = .ok (.ireturn, 1) := by decide +kernel
theorem dX8_about_105 : decode cX8_about 105 = .ok (.aload_n 0, 1) := by decide +kernel
theorem dX8_about_106 : decode cX8_about 106 = .ok (.getfield 28, 3) := by decide +kernel
theorem dX8_about_109 : decode cX8_about 109 = .ok (.iconst 1, 1) := by decide +kernel
theorem dX8_about_110 : decode cX8_about 110 = .ok (.invokevirtual 108, 3) := by decide +kernel
theorem dX8_about_113 : decode cX8_about 113 = .ok (.ireturn, 1) := by decide +kernel
theorem dX8_about_114 : decode cX8_about 114 = .ok (.aload_n 0, 1) := by decide +kernel
theorem dX8_about_115 : decode cX8_about 115 = .ok (.getfield 28, 3) := by decide +kernel
theorem dX8_about_118 : decode cX8_about 118 = .ok (.iconst 2, 1) := by decide +kernel
theorem dX8_about_119 : decode cX8_about 119 = .ok (.invokevirtual 108, 3) := by decide +kernel
theorem dX8_about_122 : decode cX8_about 122 = .ok (.ireturn, 1) := by decide +kernel
theorem dX8_about_123 : decode cX8_about 123 = .ok (.aload_n 0, 1) := by decide +kernel
theorem dX8_about_124 : decode cX8_about 124 = .ok (.getfield 28, 3) := by decide +kernel
theorem dX8_about_127 : decode cX8_about 127 = .ok (.iconst 3, 1) := by decide +kernel
theorem dX8_about_128 : decode cX8_about 128 = .ok (.invokevirtual 108, 3) := by decide +kernel
theorem dX8_about_131 : decode cX8_about 131 = .ok (.ireturn, 1) := by decide +kernel
theorem dX8_about_132 : decode cX8_about 132 = .ok (.aload_n 0, 1) := by decide +kernel
theorem dX8_about_133 : decode cX8_about 133 = .ok (.getfield 28, 3) := by decide +kernel
theorem dX8_about_136 : decode cX8_about 136 = .ok (.invokevirtual 111, 3) := by decide +kernel
theorem dX8_about_139 : decode cX8_about 139 = .ok (.ireturn, 1) := by decide +kernel
theorem dX8_about_140 : decode cX8_about 140 = .ok (.aload_n 0, 1) := by decide +kernel
theorem dX8_about_141 : decode cX8_about 141 = .ok (.getfield 44, 3) := by decide +kernel
theorem dX8_about_144 : decode cX8_about 144 = .ok (.getfield 114, 3) := by decide +kernel
theorem dX8_about_147 : decode cX8_about 147 = .ok (.ireturn, 1) := by decide +kernel
theorem dX8_about_148 : decode cX8_about 148 = .ok (.aload_n 0, 1) := by decide +kernel
theorem dX8_about_149 : decode cX8_about 149 = .ok (.getfield 64, 3) := by decide +kernel
theorem dX8_about_152 : decode cX8_about 152 = .ok (.getfield 117, 3) := by decide +kernel
theorem dX8_about_155 : decode cX8_about 155 = .ok (.ireturn, 1) := by decide +kernel
theorem dX8_about_156 : decode cX8_about 156 = .ok (.aload_n 0, 1) := by decide +kernel
theorem dX8_about_157 : decode cX8_about 157 = .ok (.getfield 10, 3) := by decide +kernel
theorem dX8_about_160 : decode cX8_about 160 = .ok (.getfield 118, 3) := by decide +kernel
theorem dX8_about_163 : decode cX8_about 163 = .ok (.ireturn, 1) := by decide +kernel
theorem dX8_about_164 : decode cX8_about 164 = .ok (.bipush (-2), 2) := by decide +kernel
theorem dX8_about_166 : decode cX8_about 166 = .ok (.ireturn, 1) := by decide +kernel
theorem dX8_letter_0 : decode cX8_letter 0 = .ok (.aload_n 0, 1) := by decide +kernel
theorem dX8_letter_1 : decode cX8_letter 1 = .ok (.getfield 19, 3) := by decide +kernel
theorem dX8_letter_4 : decode cX8_letter 4 = .ok (.iload_n 1, 1) := by decide +kernel
theorem dX8_letter_5 : decode cX8_letter 5 = .ok (.invokevirtual 121, 3) := by decide +kernel
theorem dX8_letter_8 : decode cX8_letter 8 = .ok (.ifCond .ne 5, 3) := by decide +kernel
theorem dX8_letter_11 : decode cX8_letter 11 = .ok (.iconst (-1), 1) := by decide +kernel
theorem dX8_letter_12 : decode cX8_letter 12 = .ok (.ireturn, 1) := by decide +kernel
theorem dX8_letter_13 : decode cX8_letter 13 = .ok (.iload_n 2, 1) := by decide +kernel
theorem dX8_letter_14 : decode cX8_letter 14 = .ok (.tableswitch 110 0 5 #[38, 47, 57, 67, 76, 85], 38) := by decide +kernel
theorem dX8_letter_52 : decode cX8_letter 52 = .ok (.aload_n 0, 1) := by decide +kernel
theorem dX8_letter_53 : decode cX8_letter 53 = .ok (.getfield 28, 3) := by decide +kernel
theorem dX8_letter_56 : decode cX8_letter 56 = .ok (.iload_n 1, 1) := by decide +kernel
theorem dX8_letter_57 : decode cX8_letter 57 = .ok (.invokevirtual 125, 3) := by decide +kernel
theorem dX8_letter_60 : decode cX8_letter 60 = .ok (.ireturn, 1) := by decide +kernel
theorem dX8_letter_61 : decode cX8_letter 61 = .ok (.aload_n 0, 1) := by decide +kernel
theorem dX8_letter_62 : decode cX8_letter 62 = .ok (.getfield 19, 3) := by decide +kernel
theorem dX8_letter_65 : decode cX8_letter 65 = .ok (.getfield 128, 3) := by decide +kernel
theorem dX8_letter_68 : decode cX8_letter 68 = .ok (.iload_n 1, 1) := by decide +kernel
theorem dX8_letter_69 : decode cX8_letter 69 = .ok (.iaload, 1) := by decide +kernel
theorem dX8_letter_70 : decode cX8_letter 70 = .ok (.ireturn, 1) := by decide +kernel
theorem dX8_letter_71 : decode cX8_letter 71 = .ok (.aload_n 0, 1) := by decide +kernel
theorem dX8_letter_72 : decode cX8_letter 72 = .ok (.getfield 19, 3) := by decide +kernel
theorem dX8_letter_75 : decode cX8_letter 75 = .ok (.getfield 132, 3) := by decide +kernel
theorem dX8_letter_78 : decode cX8_letter 78 = .ok (.iload_n 1, 1) := by decide +kernel
theorem dX8_letter_79 : decode cX8_letter 79 = .ok (.iaload, 1) := by decide +kernel
theorem dX8_letter_80 : decode cX8_letter 80 = .ok (.ireturn, 1) := by decide +kernel
theorem dX8_letter_81 : decode cX8_letter 81 = .ok (.aload_n 0, 1) := by decide +kernel
theorem dX8_letter_82 : decode cX8_letter 82 = .ok (.getfield 28, 3) := by decide +kernel
theorem dX8_letter_85 : decode cX8_letter 85 = .ok (.iload_n 1, 1) := by decide +kernel
theorem dX8_letter_86 : decode cX8_letter 86 = .ok (.invokevirtual 135, 3) := by decide +kernel
theorem dX8_letter_89 : decode cX8_letter 89 = .ok (.ireturn, 1) := by decide +kernel
theorem dX8_letter_90 : decode cX8_letter 90 = .ok (.aload_n 0, 1) := by decide +kernel
theorem dX8_letter_91 : decode cX8_letter 91 = .ok (.getfield 28, 3) := by decide +kernel
theorem dX8_letter_94 : decode cX8_letter 94 = .ok (.iload_n 1, 1) := by decide +kernel
theorem dX8_letter_95 : decode cX8_letter 95 = .ok (.invokevirtual 138, 3) := by decide +kernel
theorem dX8_letter_98 : decode cX8_letter 98 = .ok (.ireturn, 1) := by decide +kernel
theorem dX8_letter_99 : decode cX8_letter 99 = .ok (.aload_n 0, 1) := by decide +kernel
theorem dX8_letter_100 : decode cX8_letter 100 = .ok (.getfield 28, 3) := by decide +kernel
theorem dX8_letter_103 : decode cX8_letter 103 = .ok (.iload_n 1, 1) := by decide +kernel
theorem dX8_letter_104 : decode cX8_letter 104 = .ok (.invokevirtual 135, 3) := by decide +kernel
theorem dX8_letter_107 : decode cX8_letter 107 = .ok (.ifCond .ne 14, 3) := by decide +kernel
theorem dX8_letter_110 : decode cX8_letter 110 = .ok (.aload_n 0, 1) := by decide +kernel
theorem dX8_letter_111 : decode cX8_letter 111 = .ok (.getfield 28, 3) := by decide +kernel
theorem dX8_letter_114 : decode cX8_letter 114 = .ok (.iload_n 1, 1) := by decide +kernel
theorem dX8_letter_115 : decode cX8_letter 115 = .ok (.invokevirtual 141, 3) := by decide +kernel
theorem dX8_letter_118 : decode cX8_letter 118 = .ok (.goto 5, 3) := by decide +kernel
theorem dX8_letter_121 : decode cX8_letter 121 = .ok (.bipush (-9), 2) := by decide +kernel
theorem dX8_letter_123 : decode cX8_letter 123 = .ok (.ireturn, 1) := by decide +kernel
theorem dX8_letter_124 : decode cX8_letter 124 = .ok (.bipush (-2), 2) := by decide +kernel
theorem dX8_letter_126 : decode cX8_letter 126 = .ok (.ireturn, 1) := by decide +kernel
theorem dX8_clerk_0 : decode cX8_clerk 0 = .ok (.aload_n 0, 1) := by decide +kernel
theorem dX8_clerk_1 : decode cX8_clerk 1 = .ok (.getfield 19, 3) := by decide +kernel
theorem dX8_clerk_4 : decode cX8_clerk 4 = .ok (.iload_n 1, 1) := by decide +kernel
theorem dX8_clerk_5 : decode cX8_clerk 5 = .ok (.invokevirtual 144, 3) := by decide +kernel
theorem dX8_clerk_8 : decode cX8_clerk 8 = .ok (.ifCond .ne 5, 3) := by decide +kernel
theorem dX8_clerk_11 : decode cX8_clerk 11 = .ok (.iconst (-1), 1) := by decide +kernel
theorem dX8_clerk_12 : decode cX8_clerk 12 = .ok (.ireturn, 1) := by decide +kernel
theorem dX8_clerk_13 : decode cX8_clerk 13 = .ok (.iload_n 2, 1) := by decide +kernel
theorem dX8_clerk_14 : decode cX8_clerk 14 = .ok (.lookupswitch 45 #[(0, 26), (1, 35)], 26) := by decide +kernel
theorem dX8_clerk_40 : decode cX8_clerk 40 = .ok (.aload_n 0, 1) := by decide +kernel
theorem dX8_clerk_41 : decode cX8_clerk 41 = .ok (.getfield 28, 3) := by decide +kernel
theorem dX8_clerk_44 : decode cX8_clerk 44 = .ok (.iload_n 1, 1) := by decide +kernel
theorem dX8_clerk_45 : decode cX8_clerk 45 = .ok (.invokevirtual 147, 3) := by decide +kernel
theorem dX8_clerk_48 : decode cX8_clerk 48 = .ok (.ireturn, 1) := by decide +kernel
theorem dX8_clerk_49 : decode cX8_clerk 49 = .ok (.aload_n 0, 1) := by decide +kernel
theorem dX8_clerk_50 : decode cX8_clerk 50 = .ok (.getfield 19, 3) := by decide +kernel
theorem dX8_clerk_53 : decode cX8_clerk 53 = .ok (.getfield 150, 3) := by decide +kernel
theorem dX8_clerk_56 : decode cX8_clerk 56 = .ok (.iload_n 1, 1) := by decide +kernel
theorem dX8_clerk_57 : decode cX8_clerk 57 = .ok (.iaload, 1) := by decide +kernel
theorem dX8_clerk_58 : decode cX8_clerk 58 = .ok (.ireturn, 1) := by decide +kernel
theorem dX8_clerk_59 : decode cX8_clerk 59 = .ok (.bipush (-2), 2) := by decide +kernel
theorem dX8_clerk_61 : decode cX8_clerk 61 = .ok (.ireturn, 1) := by decide +kernel
theorem dX8_hole_0 : decode cX8_hole 0 = .ok (.iload_n 1, 1) := by decide +kernel
theorem dX8_hole_1 : decode cX8_hole 1 = .ok (.invokestatic 153, 3) := by decide +kernel
theorem dX8_hole_4 : decode cX8_hole 4 = .ok (.ifCond .eq 14, 3) := by decide +kernel
theorem dX8_hole_7 : decode cX8_hole 7 = .ok (.aload_n 0, 1) := by decide +kernel
theorem dX8_hole_8 : decode cX8_hole 8 = .ok (.getfield 28, 3) := by decide +kernel
theorem dX8_hole_11 : decode cX8_hole 11 = .ok (.iload_n 1, 1) := by decide +kernel
theorem dX8_hole_12 : decode cX8_hole 12 = .ok (.invokevirtual 156, 3) := by decide +kernel
theorem dX8_hole_15 : decode cX8_hole 15 = .ok (.goto 4, 3) := by decide +kernel
theorem dX8_hole_18 : decode cX8_hole 18 = .ok (.iconst (-1), 1) := by decide +kernel
theorem dX8_hole_19 : decode cX8_hole 19 = .ok (.ireturn, 1) := by decide +kernel
theorem dX8_day_0 : decode cX8_day 0 = .ok (.aload_n 0, 1) := by decide +kernel
theorem dX8_day_1 : decode cX8_day 1 = .ok (.getfield 44, 3) := by decide +kernel
theorem dX8_day_4 : decode cX8_day 4 = .ok (.aload_n 0, 1) := by decide +kernel
theorem dX8_day_5 : decode cX8_day 5 = .ok (.getfield 28, 3) := by decide +kernel
theorem dX8_day_8 : decode cX8_day 8 = .ok (.invokevirtual 159, 3) := by decide +kernel
theorem dX8_day_11 : decode cX8_day 11 = .ok (.aload_n 0, 1) := by decide +kernel
theorem dX8_day_12 : decode cX8_day 12 = .ok (.getfield 28, 3) := by decide +kernel
theorem dX8_day_15 : decode cX8_day 15 = .ok (.invokevirtual 163, 3) := by decide +kernel
theorem dX8_day_18 : decode cX8_day 18 = .ok (.ireturn, 1) := by decide +kernel
theorem dX8_put_0 : decode cX8_put 0 = .ok (.aload_n 0, 1) := by decide +kernel
theorem dX8_put_1 : decode cX8_put 1 = .ok (.getfield 19, 3) := by decide +kernel
theorem dX8_put_4 : decode cX8_put 4 = .ok (.iload_n 1, 1) := by decide +kernel
theorem dX8_put_5 : decode cX8_put 5 = .ok (.invokevirtual 121, 3) := by decide +kernel
theorem dX8_put_8 : decode cX8_put 8 = .ok (.ifCond .eq 10, 3) := by decide +kernel
theorem dX8_put_11 : decode cX8_put 11 = .ok (.iload_n 2, 1) := by decide +kernel
theorem dX8_put_12 : decode cX8_put 12 = .ok (.invokestatic 153, 3) := by decide +kernel
theorem dX8_put_15 : decode cX8_put 15 = .ok (.ifCond .ne 5, 3) := by decide +kernel
theorem dX8_put_18 : decode cX8_put 18 = .ok (.iconst (-1), 1) := by decide +kernel
theorem dX8_put_19 : decode cX8_put 19 = .ok (.ireturn, 1) := by decide +kernel
theorem dX8_put_20 : decode cX8_put 20 = .ok (.aload_n 0, 1) := by decide +kernel
theorem dX8_put_21 : decode cX8_put 21 = .ok (.getfield 28, 3) := by decide +kernel
theorem dX8_put_24 : decode cX8_put 24 = .ok (.iload_n 1, 1) := by decide +kernel
theorem dX8_put_25 : decode cX8_put 25 = .ok (.iload_n 2, 1) := by decide +kernel
theorem dX8_put_26 : decode cX8_put 26 = .ok (.invokevirtual 166, 3) := by decide +kernel
theorem dX8_put_29 : decode cX8_put 29 = .ok (.ifCond .ne 6, 3) := by decide +kernel
theorem dX8_put_32 : decode cX8_put 32 = .ok (.bipush (-3), 2) := by decide +kernel
theorem dX8_put_34 : decode cX8_put 34 = .ok (.ireturn, 1) := by decide +kernel
theorem dX8_put_35 : decode cX8_put 35 = .ok (.aload_n 0, 1) := by decide +kernel
theorem dX8_put_36 : decode cX8_put 36 = .ok (.getfield 28, 3) := by decide +kernel
theorem dX8_put_39 : decode cX8_put 39 = .ok (.iload_n 1, 1) := by decide +kernel
theorem dX8_put_40 : decode cX8_put 40 = .ok (.invokevirtual 125, 3) := by decide +kernel
theorem dX8_put_43 : decode cX8_put 43 = .ok (.istore_n 3, 1) := by decide +kernel
theorem dX8_put_44 : decode cX8_put 44 = .ok (.aload_n 0, 1) := by decide +kernel
theorem dX8_put_45 : decode cX8_put 45 = .ok (.getfield 44, 3) := by decide +kernel
theorem dX8_put_48 : decode cX8_put 48 = .ok (.aload_n 0, 1) := by decide +kernel
theorem dX8_put_49 : decode cX8_put 49 = .ok (.getfield 28, 3) := by decide +kernel
theorem dX8_put_52 : decode cX8_put 52 = .ok (.invokevirtual 159, 3) := by decide +kernel
theorem dX8_put_55 : decode cX8_put 55 = .ok (.aload_n 0, 1) := by decide +kernel
theorem dX8_put_56 : decode cX8_put 56 = .ok (.getfield 28, 3) := by decide +kernel
theorem dX8_put_59 : decode cX8_put 59 = .ok (.iload_n 1, 1) := by decide +kernel
theorem dX8_put_60 : decode cX8_put 60 = .ok (.iload_n 2, 1) := by decide +kernel
theorem dX8_put_61 : decode cX8_put 61 = .ok (.invokevirtual 170, 3) := by decide +kernel
theorem dX8_put_64 : decode cX8_put 64 = .ok (.iload_n 3, 1) := by decide +kernel
theorem dX8_put_65 : decode cX8_put 65 = .ok (.ireturn, 1) := by decide +kernel
theorem dX8_feed_0 : decode cX8_feed 0 = .ok (.iload_n 1, 1) := by decide +kernel
theorem dX8_feed_1 : decode cX8_feed 1 = .ok (.iconst 1, 1) := by decide +kernel
theorem dX8_feed_2 : decode cX8_feed 2 = .ok (.if_icmp .lt 9, 3) := by decide +kernel
theorem dX8_feed_5 : decode cX8_feed 5 = .ok (.iload_n 1, 1) := by decide +kernel
theorem dX8_feed_6 : decode cX8_feed 6 = .ok (.bipush 9, 2) := by decide +kernel
theorem dX8_feed_8 : decode cX8_feed 8 = .ok (.if_icmp .le 6, 3) := by decide +kernel
theorem dX8_feed_11 : decode cX8_feed 11 = .ok (.bipush (-2), 2) := by decide +kernel
theorem dX8_feed_13 : decode cX8_feed 13 = .ok (.ireturn, 1) := by decide +kernel
theorem dX8_feed_14 : decode cX8_feed 14 = .ok (.aload_n 0, 1) := by decide +kernel
theorem dX8_feed_15 : decode cX8_feed 15 = .ok (.getfield 44, 3) := by decide +kernel
theorem dX8_feed_18 : decode cX8_feed 18 = .ok (.aload_n 0, 1) := by decide +kernel
theorem dX8_feed_19 : decode cX8_feed 19 = .ok (.getfield 28, 3) := by decide +kernel
theorem dX8_feed_22 : decode cX8_feed 22 = .ok (.invokevirtual 159, 3) := by decide +kernel
theorem dX8_feed_25 : decode cX8_feed 25 = .ok (.aload_n 0, 1) := by decide +kernel
theorem dX8_feed_26 : decode cX8_feed 26 = .ok (.getfield 28, 3) := by decide +kernel
theorem dX8_feed_29 : decode cX8_feed 29 = .ok (.iload_n 1, 1) := by decide +kernel
theorem dX8_feed_30 : decode cX8_feed 30 = .ok (.invokevirtual 174, 3) := by decide +kernel
theorem dX8_feed_33 : decode cX8_feed 33 = .ok (.aload_n 0, 1) := by decide +kernel
theorem dX8_feed_34 : decode cX8_feed 34 = .ok (.getfield 28, 3) := by decide +kernel
theorem dX8_feed_37 : decode cX8_feed 37 = .ok (.invokevirtual 105, 3) := by decide +kernel
theorem dX8_feed_40 : decode cX8_feed 40 = .ok (.ireturn, 1) := by decide +kernel
theorem dX8_send_0 : decode cX8_send 0 = .ok (.aload_n 0, 1) := by decide +kernel
theorem dX8_send_1 : decode cX8_send 1 = .ok (.getfield 19, 3) := by decide +kernel
theorem dX8_send_4 : decode cX8_send 4 = .ok (.iload_n 1, 1) := by decide +kernel
theorem dX8_send_5 : decode cX8_send 5 = .ok (.invokevirtual 144, 3) := by decide +kernel
theorem dX8_send_8 : decode cX8_send 8 = .ok (.ifCond .eq 10, 3) := by decide +kernel
theorem dX8_send_11 : decode cX8_send 11 = .ok (.iload_n 2, 1) := by decide +kernel
theorem dX8_send_12 : decode cX8_send 12 = .ok (.invokestatic 177, 3) := by decide +kernel
theorem dX8_send_15 : decode cX8_send 15 = .ok (.ifCond .ne 5, 3) := by decide +kernel
theorem dX8_send_18 : decode cX8_send 18 = .ok (.iconst (-1), 1) := by decide +kernel
theorem dX8_send_19 : decode cX8_send 19 = .ok (.ireturn, 1) := by decide +kernel
theorem dX8_send_20 : decode cX8_send 20 = .ok (.aload_n 0, 1) := by decide +kernel
theorem dX8_send_21 : decode cX8_send 21 = .ok (.getfield 28, 3) := by decide +kernel
theorem dX8_send_24 : decode cX8_send 24 = .ok (.iload_n 1, 1) := by decide +kernel
theorem dX8_send_25 : decode cX8_send 25 = .ok (.iload_n 2, 1) := by decide +kernel
theorem dX8_send_26 : decode cX8_send 26 = .ok (.invokevirtual 180, 3) := by decide +kernel
theorem dX8_send_29 : decode cX8_send 29 = .ok (.ifCond .ne 6, 3) := by decide +kernel
theorem dX8_send_32 : decode cX8_send 32 = .ok (.bipush (-3), 2) := by decide +kernel
theorem dX8_send_34 : decode cX8_send 34 = .ok (.ireturn, 1) := by decide +kernel
theorem dX8_send_35 : decode cX8_send 35 = .ok (.aload_n 0, 1) := by decide +kernel
theorem dX8_send_36 : decode cX8_send 36 = .ok (.getfield 28, 3) := by decide +kernel
theorem dX8_send_39 : decode cX8_send 39 = .ok (.iload_n 1, 1) := by decide +kernel
theorem dX8_send_40 : decode cX8_send 40 = .ok (.invokevirtual 147, 3) := by decide +kernel
theorem dX8_send_43 : decode cX8_send 43 = .ok (.istore_n 3, 1) := by decide +kernel
theorem dX8_send_44 : decode cX8_send 44 = .ok (.aload_n 0, 1) := by decide +kernel
theorem dX8_send_45 : decode cX8_send 45 = .ok (.getfield 44, 3) := by decide +kernel
theorem dX8_send_48 : decode cX8_send 48 = .ok (.aload_n 0, 1) := by decide +kernel
theorem dX8_send_49 : decode cX8_send 49 = .ok (.getfield 28, 3) := by decide +kernel
theorem dX8_send_52 : decode cX8_send 52 = .ok (.invokevirtual 159, 3) := by decide +kernel
theorem dX8_send_55 : decode cX8_send 55 = .ok (.aload_n 0, 1) := by decide +kernel
theorem dX8_send_56 : decode cX8_send 56 = .ok (.getfield 28, 3) := by decide +kernel
theorem dX8_send_59 : decode cX8_send 59 = .ok (.iload_n 1, 1) := by decide +kernel
theorem dX8_send_60 : decode cX8_send 60 = .ok (.iload_n 2, 1) := by decide +kernel
theorem dX8_send_61 : decode cX8_send 61 = .ok (.invokevirtual 183, 3) := by decide +kernel
theorem dX8_send_64 : decode cX8_send 64 = .ok (.iload_n 3, 1) := by decide +kernel
theorem dX8_send_65 : decode cX8_send 65 = .ok (.ireturn, 1) := by decide +kernel
theorem dX8_undo_0 : decode cX8_undo 0 = .ok (.aload_n 0, 1) := by decide +kernel
theorem dX8_undo_1 : decode cX8_undo 1 = .ok (.getfield 44, 3) := by decide +kernel
theorem dX8_undo_4 : decode cX8_undo 4 = .ok (.getfield 114, 3) := by decide +kernel
theorem dX8_undo_7 : decode cX8_undo 7 = .ok (.ifCond .ne 6, 3) := by decide +kernel
theorem dX8_undo_10 : decode cX8_undo 10 = .ok (.bipush (-3), 2) := by decide +kernel
theorem dX8_undo_12 : decode cX8_undo 12 = .ok (.ireturn, 1) := by decide +kernel
theorem dX8_undo_13 : decode cX8_undo 13 = .ok (.aload_n 0, 1) := by decide +kernel
theorem dX8_undo_14 : decode cX8_undo 14 = .ok (.getfield 44, 3) := by decide +kernel
theorem dX8_undo_17 : decode cX8_undo 17 = .ok (.aload_n 0, 1) := by decide +kernel
theorem dX8_undo_18 : decode cX8_undo 18 = .ok (.getfield 28, 3) := by decide +kernel
theorem dX8_undo_21 : decode cX8_undo 21 = .ok (.invokevirtual 186, 3) := by decide +kernel
theorem dX8_undo_24 : decode cX8_undo 24 = .ok (.aload_n 0, 1) := by decide +kernel
theorem dX8_undo_25 : decode cX8_undo 25 = .ok (.getfield 44, 3) := by decide +kernel
theorem dX8_undo_28 : decode cX8_undo 28 = .ok (.getfield 114, 3) := by decide +kernel
theorem dX8_undo_31 : decode cX8_undo 31 = .ok (.ireturn, 1) := by decide +kernel
theorem dX8_ahead_0 : decode cX8_ahead 0 = .ok (.iload_n 1, 1) := by decide +kernel
theorem dX8_ahead_1 : decode cX8_ahead 1 = .ok (.ifCond .lt 18, 3) := by decide +kernel
theorem dX8_ahead_4 : decode cX8_ahead 4 = .ok (.iload_n 1, 1) := by decide +kernel
theorem dX8_ahead_5 : decode cX8_ahead 5 = .ok (.bipush 20, 2) := by decide +kernel
theorem dX8_ahead_7 : decode cX8_ahead 7 = .ok (.if_icmp .gt 12, 3) := by decide +kernel
theorem dX8_ahead_10 : decode cX8_ahead 10 = .ok (.iload_n 2, 1) := by decide +kernel
theorem dX8_ahead_11 : decode cX8_ahead 11 = .ok (.ifCond .lt 8, 3) := by decide +kernel
theorem dX8_ahead_14 : decode cX8_ahead 14 = .ok (.iload_n 2, 1) := by decide +kernel
theorem dX8_ahead_15 : decode cX8_ahead 15 = .ok (.iconst 4, 1) := by decide +kernel
theorem dX8_ahead_16 : decode cX8_ahead 16 = .ok (.if_icmp .lt 6, 3) := by decide +kernel
theorem dX8_ahead_19 : decode cX8_ahead 19 = .ok (.bipush (-2), 2) := by decide +kernel
theorem dX8_ahead_21 : decode cX8_ahead 21 = .ok (.ireturn, 1) := by decide +kernel
theorem dX8_ahead_22 : decode cX8_ahead 22 = .ok (.aload_n 0, 1) := by decide +kernel
theorem dX8_ahead_23 : decode cX8_ahead 23 = .ok (.getfield 37, 3) := by decide +kernel
theorem dX8_ahead_26 : decode cX8_ahead 26 = .ok (.iload_n 1, 1) := by decide +kernel
theorem dX8_ahead_27 : decode cX8_ahead 27 = .ok (.iload_n 2, 1) := by decide +kernel
theorem dX8_ahead_28 : decode cX8_ahead 28 = .ok (.invokevirtual 189, 3) := by decide +kernel
theorem dX8_ahead_31 : decode cX8_ahead 31 = .ok (.ireturn, 1) := by decide +kernel
theorem dX8_hatches_0 : decode cX8_hatches 0 = .ok (.aload_n 0, 1) := by decide +kernel
theorem dX8_hatches_1 : decode cX8_hatches 1 = .ok (.getfield 19, 3) := by decide +kernel
theorem dX8_hatches_4 : decode cX8_hatches 4 = .ok (.iload_n 1, 1) := by decide +kernel
theorem dX8_hatches_5 : decode cX8_hatches 5 = .ok (.invokevirtual 121, 3) := by decide +kernel
theorem dX8_hatches_8 : decode cX8_hatches 8 = .ok (.ifCond .ne 5, 3) := by decide +kernel
theorem dX8_hatches_11 : decode cX8_hatches 11 = .ok (.iconst (-1), 1) := by decide +kernel
theorem dX8_hatches_12 : decode cX8_hatches 12 = .ok (.ireturn, 1) := by decide +kernel
theorem dX8_hatches_13 : decode cX8_hatches 13 = .ok (.aload_n 0, 1) := by decide +kernel
theorem dX8_hatches_14 : decode cX8_hatches 14 = .ok (.getfield 37, 3) := by decide +kernel
theorem dX8_hatches_17 : decode cX8_hatches 17 = .ok (.iload_n 1, 1) := by decide +kernel
theorem dX8_hatches_18 : decode cX8_hatches 18 = .ok (.aload_n 0, 1) := by decide +kernel
theorem dX8_hatches_19 : decode cX8_hatches 19 = .ok (.getfield 28, 3) := by decide +kernel
theorem dX8_hatches_22 : decode cX8_hatches 22 = .ok (.iload_n 1, 1) := by decide +kernel
theorem dX8_hatches_23 : decode cX8_hatches 23 = .ok (.invokevirtual 125, 3) := by decide +kernel
theorem dX8_hatches_26 : decode cX8_hatches 26 = .ok (.invokevirtual 193, 3) := by decide +kernel
theorem dX8_hatches_29 : decode cX8_hatches 29 = .ok (.istore_n 2, 1) := by decide +kernel
theorem dX8_hatches_30 : decode cX8_hatches 30 = .ok (.iload_n 2, 1) := by decide +kernel
theorem dX8_hatches_31 : decode cX8_hatches 31 = .ok (.bipush 20, 2) := by decide +kernel
theorem dX8_hatches_33 : decode cX8_hatches 33 = .ok (.if_icmp .le 8, 3) := by decide +kernel
theorem dX8_hatches_36 : decode cX8_hatches 36 = .ok (.bipush (-9), 2) := by decide +kernel
theorem dX8_hatches_38 : decode cX8_hatches 38 = .ok (.goto 4, 3) := by decide +kernel
theorem dX8_hatches_41 : decode cX8_hatches 41 = .ok (.iload_n 2, 1) := by decide +kernel
theorem dX8_hatches_42 : decode cX8_hatches 42 = .ok (.ireturn, 1) := by decide +kernel
theorem dX8_rows_0 : decode cX8_rows 0 = .ok (.aload_n 0, 1) := by decide +kernel
theorem dX8_rows_1 : decode cX8_rows 1 = .ok (.getfield 37, 3) := by decide +kernel
theorem dX8_rows_4 : decode cX8_rows 4 = .ok (.iload_n 1, 1) := by decide +kernel
theorem dX8_rows_5 : decode cX8_rows 5 = .ok (.invokevirtual 196, 3) := by decide +kernel
theorem dX8_rows_8 : decode cX8_rows 8 = .ok (.ireturn, 1) := by decide +kernel
theorem dX8_saved_0 : decode cX8_saved 0 = .ok (.aload_n 0, 1) := by decide +kernel
theorem dX8_saved_1 : decode cX8_saved 1 = .ok (.getfield 19, 3) := by decide +kernel
theorem dX8_saved_4 : decode cX8_saved 4 = .ok (.iload_n 1, 1) := by decide +kernel
theorem dX8_saved_5 : decode cX8_saved 5 = .ok (.invokevirtual 121, 3) := by decide +kernel
theorem dX8_saved_8 : decode cX8_saved 8 = .ok (.ifCond .ne 5, 3) := by decide +kernel
theorem dX8_saved_11 : decode cX8_saved 11 = .ok (.iconst (-1), 1) := by decide +kernel
theorem dX8_saved_12 : decode cX8_saved 12 = .ok (.ireturn, 1) := by decide +kernel
theorem dX8_saved_13 : decode cX8_saved 13 = .ok (.aload_n 0, 1) := by decide +kernel
theorem dX8_saved_14 : decode cX8_saved 14 = .ok (.getfield 28, 3) := by decide +kernel
theorem dX8_saved_17 : decode cX8_saved 17 = .ok (.iload_n 1, 1) := by decide +kernel
theorem dX8_saved_18 : decode cX8_saved 18 = .ok (.invokevirtual 135, 3) := by decide +kernel
theorem dX8_saved_21 : decode cX8_saved 21 = .ok (.ifCond .eq 6, 3) := by decide +kernel
theorem dX8_saved_24 : decode cX8_saved 24 = .ok (.bipush (-3), 2) := by decide +kernel
theorem dX8_saved_26 : decode cX8_saved 26 = .ok (.ireturn, 1) := by decide +kernel
theorem dX8_saved_27 : decode cX8_saved 27 = .ok (.aload_n 0, 1) := by decide +kernel
theorem dX8_saved_28 : decode cX8_saved 28 = .ok (.getfield 37, 3) := by decide +kernel
theorem dX8_saved_31 : decode cX8_saved 31 = .ok (.iload_n 1, 1) := by decide +kernel
theorem dX8_saved_32 : decode cX8_saved 32 = .ok (.invokevirtual 200, 3) := by decide +kernel
theorem dX8_saved_35 : decode cX8_saved 35 = .ok (.ireturn, 1) := by decide +kernel
theorem dX8_quiet_0 : decode cX8_quiet 0 = .ok (.aload_n 0, 1) := by decide +kernel
theorem dX8_quiet_1 : decode cX8_quiet 1 = .ok (.getfield 37, 3) := by decide +kernel
theorem dX8_quiet_4 : decode cX8_quiet 4 = .ok (.invokevirtual 203, 3) := by decide +kernel
theorem dX8_quiet_7 : decode cX8_quiet 7 = .ok (.ireturn, 1) := by decide +kernel
theorem dX8_judge_0 : decode cX8_judge 0 = .ok (.iload_n 1, 1) := by decide +kernel
theorem dX8_judge_1 : decode cX8_judge 1 = .ok (.iconst 1, 1) := by decide +kernel
theorem dX8_judge_2 : decode cX8_judge 2 = .ok (.if_icmp .lt 14, 3) := by decide +kernel
theorem dX8_judge_5 : decode cX8_judge 5 = .ok (.iload_n 1, 1) := by decide +kernel
theorem dX8_judge_6 : decode cX8_judge 6 = .ok (.iconst 4, 1) := by decide +kernel
theorem dX8_judge_7 : decode cX8_judge 7 = .ok (.if_icmp .gt 9, 3) := by decide +kernel
theorem dX8_judge_10 : decode cX8_judge 10 = .ok (.lload_n 2, 1) := by decide +kernel
theorem dX8_judge_11 : decode cX8_judge 11 = .ok (.lconst 0, 1) := by decide +kernel
theorem dX8_judge_12 : decode cX8_judge 12 = .ok (.lcmp, 1) := by decide +kernel
theorem dX8_judge_13 : decode cX8_judge 13 = .ok (.ifCond .ge 6, 3) := by decide +kernel
theorem dX8_judge_16 : decode cX8_judge 16 = .ok (.bipush (-2), 2) := by decide +kernel
theorem dX8_judge_18 : decode cX8_judge 18 = .ok (.ireturn, 1) := by decide +kernel
theorem dX8_judge_19 : decode cX8_judge 19 = .ok (.aload_n 0, 1) := by decide +kernel
theorem dX8_judge_20 : decode cX8_judge 20 = .ok (.getfield 37, 3) := by decide +kernel
theorem dX8_judge_23 : decode cX8_judge 23 = .ok (.iload_n 1, 1) := by decide +kernel
theorem dX8_judge_24 : decode cX8_judge 24 = .ok (.lload_n 2, 1) := by decide +kernel
theorem dX8_judge_25 : decode cX8_judge 25 = .ok (.invokevirtual 206, 3) := by decide +kernel
theorem dX8_judge_28 : decode cX8_judge 28 = .ok (.ireturn, 1) := by decide +kernel
theorem dX8_share_0 : decode cX8_share 0 = .ok (.aload_n 0, 1) := by decide +kernel
theorem dX8_share_1 : decode cX8_share 1 = .ok (.getfield 19, 3) := by decide +kernel
theorem dX8_share_4 : decode cX8_share 4 = .ok (.iload_n 1, 1) := by decide +kernel
theorem dX8_share_5 : decode cX8_share 5 = .ok (.invokevirtual 144, 3) := by decide +kernel
theorem dX8_share_8 : decode cX8_share 8 = .ok (.ifCond .ne 5, 3) := by decide +kernel
theorem dX8_share_11 : decode cX8_share 11 = .ok (.iconst (-1), 1) := by decide +kernel
theorem dX8_share_12 : decode cX8_share 12 = .ok (.ireturn, 1) := by decide +kernel
theorem dX8_share_13 : decode cX8_share 13 = .ok (.aload_n 0, 1) := by decide +kernel
theorem dX8_share_14 : decode cX8_share 14 = .ok (.getfield 37, 3) := by decide +kernel
theorem dX8_share_17 : decode cX8_share 17 = .ok (.iload_n 1, 1) := by decide +kernel
theorem dX8_share_18 : decode cX8_share 18 = .ok (.iload_n 2, 1) := by decide +kernel
theorem dX8_share_19 : decode cX8_share 19 = .ok (.invokevirtual 210, 3) := by decide +kernel
theorem dX8_share_22 : decode cX8_share 22 = .ok (.ireturn, 1) := by decide +kernel
theorem dX8_tell_0 : decode cX8_tell 0 = .ok (.iload_n 1, 1) := by decide +kernel
theorem dX8_tell_1 : decode cX8_tell 1 = .ok (.ifCond .lt 18, 3) := by decide +kernel
theorem dX8_tell_4 : decode cX8_tell 4 = .ok (.iload_n 1, 1) := by decide +kernel
theorem dX8_tell_5 : decode cX8_tell 5 = .ok (.bipush 9, 2) := by decide +kernel
theorem dX8_tell_7 : decode cX8_tell 7 = .ok (.if_icmp .gt 12, 3) := by decide +kernel
theorem dX8_tell_10 : decode cX8_tell 10 = .ok (.iload_n 2, 1) := by decide +kernel
theorem dX8_tell_11 : decode cX8_tell 11 = .ok (.ifCond .lt 8, 3) := by decide +kernel
theorem dX8_tell_14 : decode cX8_tell 14 = .ok (.iload_n 2, 1) := by decide +kernel
theorem dX8_tell_15 : decode cX8_tell 15 = .ok (.iconst 1, 1) := by decide +kernel
theorem dX8_tell_16 : decode cX8_tell 16 = .ok (.if_icmp .le 6, 3) := by decide +kernel
theorem dX8_tell_19 : decode cX8_tell 19 = .ok (.bipush (-2), 2) := by decide +kernel
theorem dX8_tell_21 : decode cX8_tell 21 = .ok (.ireturn, 1) := by decide +kernel
theorem dX8_tell_22 : decode cX8_tell 22 = .ok (.aload_n 0, 1) := by decide +kernel
theorem dX8_tell_23 : decode cX8_tell 23 = .ok (.getfield 64, 3) := by decide +kernel
theorem dX8_tell_26 : decode cX8_tell 26 = .ok (.iload_n 1, 1) := by decide +kernel
theorem dX8_tell_27 : decode cX8_tell 27 = .ok (.iload_n 2, 1) := by decide +kernel
theorem dX8_tell_28 : decode cX8_tell 28 = .ok (.iconst 1, 1) := by decide +kernel
theorem dX8_tell_29 : decode cX8_tell 29 = .ok (.if_icmp .ne 7, 3) := by decide +kernel
theorem dX8_tell_32 : decode cX8_tell 32 = .ok (.iconst 1, 1) := by decide +kernel
theorem dX8_tell_33 : decode cX8_tell 33 = .ok (.goto 4, 3) := by decide +kernel
theorem dX8_tell_36 : decode cX8_tell 36 = .ok (.iconst 0, 1) := by decide +kernel
theorem dX8_tell_37 : decode cX8_tell 37 = .ok (.invokevirtual 214, 3) := by decide +kernel
theorem dX8_tell_40 : decode cX8_tell 40 = .ok (.ireturn, 1) := by decide +kernel
theorem dX8_untell_0 : decode cX8_untell 0 = .ok (.aload_n 0, 1) := by decide +kernel
theorem dX8_untell_1 : decode cX8_untell 1 = .ok (.getfield 64, 3) := by decide +kernel
theorem dX8_untell_4 : decode cX8_untell 4 = .ok (.invokevirtual 216, 3) := by decide +kernel
theorem dX8_untell_7 : decode cX8_untell 7 = .ok (.ireturn, 1) := by decide +kernel
theorem dX8_may_0 : decode cX8_may 0 = .ok (.iload_n 1, 1) := by decide +kernel
theorem dX8_may_1 : decode cX8_may 1 = .ok (.ifCond .lt 8, 3) := by decide +kernel
theorem dX8_may_4 : decode cX8_may 4 = .ok (.iload_n 1, 1) := by decide +kernel
theorem dX8_may_5 : decode cX8_may 5 = .ok (.iconst 1, 1) := by decide +kernel
theorem dX8_may_6 : decode cX8_may 6 = .ok (.if_icmp .le 6, 3) := by decide +kernel
theorem dX8_may_9 : decode cX8_may 9 = .ok (.bipush (-2), 2) := by decide +kernel
theorem dX8_may_11 : decode cX8_may 11 = .ok (.ireturn, 1) := by decide +kernel
theorem dX8_may_12 : decode cX8_may 12 = .ok (.iload_n 1, 1) := by decide +kernel
theorem dX8_may_13 : decode cX8_may 13 = .ok (.ifCond .ne 13, 3) := by decide +kernel
theorem dX8_may_16 : decode cX8_may 16 = .ok (.aload_n 0, 1) := by decide +kernel
theorem dX8_may_17 : decode cX8_may 17 = .ok (.getfield 64, 3) := by decide +kernel
theorem dX8_may_20 : decode cX8_may 20 = .ok (.invokevirtual 217, 3) := by decide +kernel
theorem dX8_may_23 : decode cX8_may 23 = .ok (.goto 10, 3) := by decide +kernel
theorem dX8_may_26 : decode cX8_may 26 = .ok (.aload_n 0, 1) := by decide +kernel
theorem dX8_may_27 : decode cX8_may 27 = .ok (.getfield 64, 3) := by decide +kernel
theorem dX8_may_30 : decode cX8_may 30 = .ok (.invokevirtual 220, 3) := by decide +kernel
theorem dX8_may_33 : decode cX8_may 33 = .ok (.ireturn, 1) := by decide +kernel
theorem dX8_rests_0 : decode cX8_rests 0 = .ok (.aload_n 0, 1) := by decide +kernel
theorem dX8_rests_1 : decode cX8_rests 1 = .ok (.getfield 19, 3) := by decide +kernel
theorem dX8_rests_4 : decode cX8_rests 4 = .ok (.iload_n 1, 1) := by decide +kernel
theorem dX8_rests_5 : decode cX8_rests 5 = .ok (.invokevirtual 144, 3) := by decide +kernel
theorem dX8_rests_8 : decode cX8_rests 8 = .ok (.ifCond .eq 14, 3) := by decide +kernel
theorem dX8_rests_11 : decode cX8_rests 11 = .ok (.aload_n 0, 1) := by decide +kernel
theorem dX8_rests_12 : decode cX8_rests 12 = .ok (.getfield 19, 3) := by decide +kernel
theorem dX8_rests_15 : decode cX8_rests 15 = .ok (.iload_n 2, 1) := by decide +kernel
theorem dX8_rests_16 : decode cX8_rests 16 = .ok (.invokevirtual 144, 3) := by decide +kernel
theorem dX8_rests_19 : decode cX8_rests 19 = .ok (.ifCond .ne 5, 3) := by decide +kernel
theorem dX8_rests_22 : decode cX8_rests 22 = .ok (.iconst (-1), 1) := by decide +kernel
theorem dX8_rests_23 : decode cX8_rests 23 = .ok (.ireturn, 1) := by decide +kernel
theorem dX8_rests_24 : decode cX8_rests 24 = .ok (.iload_n 1, 1) := by decide +kernel
theorem dX8_rests_25 : decode cX8_rests 25 = .ok (.iload_n 2, 1) := by decide +kernel
theorem dX8_rests_26 : decode cX8_rests 26 = .ok (.if_icmp .eq 12, 3) := by decide +kernel
theorem dX8_rests_29 : decode cX8_rests 29 = .ok (.iload_n 3, 1) := by decide +kernel
theorem dX8_rests_30 : decode cX8_rests 30 = .ok (.ifCond .lt 8, 3) := by decide +kernel
theorem dX8_rests_33 : decode cX8_rests 33 = .ok (.iload_n 3, 1) := by decide +kernel
theorem dX8_rests_34 : decode cX8_rests 34 = .ok (.iconst 1, 1) := by decide +kernel
theorem dX8_rests_35 : decode cX8_rests 35 = .ok (.if_icmp .le 6, 3) := by decide +kernel
theorem dX8_rests_38 : decode cX8_rests 38 = .ok (.bipush (-2), 2) := by decide +kernel
theorem dX8_rests_40 : decode cX8_rests 40 = .ok (.ireturn, 1) := by decide +kernel
theorem dX8_rests_41 : decode cX8_rests 41 = .ok (.aload_n 0, 1) := by decide +kernel
theorem dX8_rests_42 : decode cX8_rests 42 = .ok (.getfield 37, 3) := by decide +kernel
theorem dX8_rests_45 : decode cX8_rests 45 = .ok (.iload_n 1, 1) := by decide +kernel
theorem dX8_rests_46 : decode cX8_rests 46 = .ok (.iload_n 2, 1) := by decide +kernel
theorem dX8_rests_47 : decode cX8_rests 47 = .ok (.iload_n 3, 1) := by decide +kernel
theorem dX8_rests_48 : decode cX8_rests 48 = .ok (.iconst 1, 1) := by decide +kernel
theorem dX8_rests_49 : decode cX8_rests 49 = .ok (.if_icmp .ne 7, 3) := by decide +kernel
theorem dX8_rests_52 : decode cX8_rests 52 = .ok (.iconst 1, 1) := by decide +kernel
theorem dX8_rests_53 : decode cX8_rests 53 = .ok (.goto 4, 3) := by decide +kernel
theorem dX8_rests_56 : decode cX8_rests 56 = .ok (.iconst 0, 1) := by decide +kernel
theorem dX8_rests_57 : decode cX8_rests 57 = .ok (.invokevirtual 223, 3) := by decide +kernel
theorem dX8_rests_60 : decode cX8_rests 60 = .ok (.ireturn, 1) := by decide +kernel
theorem dX8_hawks_0 : decode cX8_hawks 0 = .ok (.iload_n 1, 1) := by decide +kernel
theorem dX8_hawks_1 : decode cX8_hawks 1 = .ok (.ifCond .lt 19, 3) := by decide +kernel
theorem dX8_hawks_4 : decode cX8_hawks 4 = .ok (.iload_n 1, 1) := by decide +kernel
theorem dX8_hawks_5 : decode cX8_hawks 5 = .ok (.bipush 6, 2) := by decide +kernel
theorem dX8_hawks_7 : decode cX8_hawks 7 = .ok (.if_icmp .gt 13, 3) := by decide +kernel
theorem dX8_hawks_10 : decode cX8_hawks 10 = .ok (.iload_n 2, 1) := by decide +kernel
theorem dX8_hawks_11 : decode cX8_hawks 11 = .ok (.ifCond .lt 9, 3) := by decide +kernel
theorem dX8_hawks_14 : decode cX8_hawks 14 = .ok (.iload_n 2, 1) := by decide +kernel
theorem dX8_hawks_15 : decode cX8_hawks 15 = .ok (.bipush 10, 2) := by decide +kernel
theorem dX8_hawks_17 : decode cX8_hawks 17 = .ok (.if_icmp .le 6, 3) := by decide +kernel
theorem dX8_hawks_20 : decode cX8_hawks 20 = .ok (.bipush (-2), 2) := by decide +kernel
theorem dX8_hawks_22 : decode cX8_hawks 22 = .ok (.ireturn, 1) := by decide +kernel
theorem dX8_hawks_23 : decode cX8_hawks 23 = .ok (.aload_n 0, 1) := by decide +kernel
theorem dX8_hawks_24 : decode cX8_hawks 24 = .ok (.getfield 71, 3) := by decide +kernel
theorem dX8_hawks_27 : decode cX8_hawks 27 = .ok (.aload_n 0, 1) := by decide +kernel
theorem dX8_hawks_28 : decode cX8_hawks 28 = .ok (.getfield 28, 3) := by decide +kernel
theorem dX8_hawks_31 : decode cX8_hawks 31 = .ok (.iconst 2, 1) := by decide +kernel
theorem dX8_hawks_32 : decode cX8_hawks 32 = .ok (.invokevirtual 108, 3) := by decide +kernel
theorem dX8_hawks_35 : decode cX8_hawks 35 = .ok (.invokestatic 227, 3) := by decide +kernel
theorem dX8_hawks_38 : decode cX8_hawks 38 = .ok (.iload_n 1, 1) := by decide +kernel
theorem dX8_hawks_39 : decode cX8_hawks 39 = .ok (.iload_n 2, 1) := by decide +kernel
theorem dX8_hawks_40 : decode cX8_hawks 40 = .ok (.iload_n 3, 1) := by decide +kernel
theorem dX8_hawks_41 : decode cX8_hawks 41 = .ok (.invokevirtual 232, 3) := by decide +kernel
theorem dX8_hawks_44 : decode cX8_hawks 44 = .ok (.ireturn, 1) := by decide +kernel
theorem dX8_seed_0 : decode cX8_seed 0 = .ok (.aload_n 0, 1) := by decide +kernel
theorem dX8_seed_1 : decode cX8_seed 1 = .ok (.getfield 236, 3) := by decide +kernel
theorem dX8_seed_4 : decode cX8_seed 4 = .ok (.lstore_n 3, 1) := by decide +kernel
theorem dX8_seed_5 : decode cX8_seed 5 = .ok (.aload_n 0, 1) := by decide +kernel
theorem dX8_seed_6 : decode cX8_seed 6 = .ok (.lload_n 1, 1) := by decide +kernel
theorem dX8_seed_7 : decode cX8_seed 7 = .ok (.putfield 236, 3) := by decide +kernel
theorem dX8_seed_10 : decode cX8_seed 10 = .ok (.lload_n 3, 1) := by decide +kernel
theorem dX8_seed_11 : decode cX8_seed 11 = .ok (.lreturn, 1) := by decide +kernel
theorem dX8_years_0 : decode cX8_years 0 = .ok (.iload_n 1, 1) := by decide +kernel
theorem dX8_years_1 : decode cX8_years 1 = .ok (.iconst 1, 1) := by decide +kernel
theorem dX8_years_2 : decode cX8_years 2 = .ok (.if_icmp .lt 9, 3) := by decide +kernel
theorem dX8_years_5 : decode cX8_years 5 = .ok (.iload_n 1, 1) := by decide +kernel
theorem dX8_years_6 : decode cX8_years 6 = .ok (.bipush 30, 2) := by decide +kernel
theorem dX8_years_8 : decode cX8_years 8 = .ok (.if_icmp .le 6, 3) := by decide +kernel
theorem dX8_years_11 : decode cX8_years 11 = .ok (.bipush (-2), 2) := by decide +kernel
theorem dX8_years_13 : decode cX8_years 13 = .ok (.ireturn, 1) := by decide +kernel
theorem dX8_years_14 : decode cX8_years 14 = .ok (.aload_n 0, 1) := by decide +kernel
theorem dX8_years_15 : decode cX8_years 15 = .ok (.getfield 37, 3) := by decide +kernel
theorem dX8_years_18 : decode cX8_years 18 = .ok (.iload_n 1, 1) := by decide +kernel
theorem dX8_years_19 : decode cX8_years 19 = .ok (.aload_n 0, 1) := by decide +kernel
theorem dX8_years_20 : decode cX8_years 20 = .ok (.getfield 236, 3) := by decide +kernel
theorem dX8_years_23 : decode cX8_years 23 = .ok (.invokevirtual 240, 3) := by decide +kernel
theorem dX8_years_26 : decode cX8_years 26 = .ok (.istore_n 2, 1) := by decide +kernel
theorem dX8_years_27 : decode cX8_years 27 = .ok (.aload_n 0, 1) := by decide +kernel
theorem dX8_years_28 : decode cX8_years 28 = .ok (.aload_n 0, 1) := by decide +kernel
theorem dX8_years_29 : decode cX8_years 29 = .ok (.getfield 37, 3) := by decide +kernel
theorem dX8_years_32 : decode cX8_years 32 = .ok (.getfield 243, 3) := by decide +kernel
theorem dX8_years_35 : decode cX8_years 35 = .ok (.putfield 236, 3) := by decide +kernel
theorem dX8_years_38 : decode cX8_years 38 = .ok (.iload_n 2, 1) := by decide +kernel
theorem dX8_years_39 : decode cX8_years 39 = .ok (.ireturn, 1) := by decide +kernel
theorem dX8_keep_0 : decode cX8_keep 0 = .ok (.iload_n 1, 1) := by decide +kernel
theorem dX8_keep_1 : decode cX8_keep 1 = .ok (.ifCond .lt 8, 3) := by decide +kernel
theorem dX8_keep_4 : decode cX8_keep 4 = .ok (.iload_n 1, 1) := by decide +kernel
theorem dX8_keep_5 : decode cX8_keep 5 = .ok (.iconst 2, 1) := by decide +kernel
theorem dX8_keep_6 : decode cX8_keep 6 = .ok (.if_icmp .lt 5, 3) := by decide +kernel
theorem dX8_keep_9 : decode cX8_keep 9 = .ok (.iconst (-1), 1) := by decide +kernel
theorem dX8_keep_10 : decode cX8_keep 10 = .ok (.ireturn, 1) := by decide +kernel
theorem dX8_keep_11 : decode cX8_keep 11 = .ok (.aload_n 0, 1) := by decide +kernel
theorem dX8_keep_12 : decode cX8_keep 12 = .ok (.getfield 53, 3) := by decide +kernel
theorem dX8_keep_15 : decode cX8_keep 15 = .ok (.iload_n 1, 1) := by decide +kernel
theorem dX8_keep_16 : decode cX8_keep 16 = .ok (.aload_n 0, 1) := by decide +kernel
theorem dX8_keep_17 : decode cX8_keep 17 = .ok (.getfield 28, 3) := by decide +kernel
theorem dX8_keep_20 : decode cX8_keep 20 = .ok (.invokevirtual 246, 3) := by decide +kernel
theorem dX8_keep_23 : decode cX8_keep 23 = .ok (.aload_n 0, 1) := by decide +kernel
theorem dX8_keep_24 : decode cX8_keep 24 = .ok (.getfield 57, 3) := by decide +kernel
theorem dX8_keep_27 : decode cX8_keep 27 = .ok (.iload_n 1, 1) := by decide +kernel
theorem dX8_keep_28 : decode cX8_keep 28 = .ok (.iconst 1, 1) := by decide +kernel
theorem dX8_keep_29 : decode cX8_keep 29 = .ok (.bastore, 1) := by decide +kernel
theorem dX8_keep_30 : decode cX8_keep 30 = .ok (.aload_n 0, 1) := by decide +kernel
theorem dX8_keep_31 : decode cX8_keep 31 = .ok (.getfield 28, 3) := by decide +kernel
theorem dX8_keep_34 : decode cX8_keep 34 = .ok (.invokevirtual 102, 3) := by decide +kernel
theorem dX8_keep_37 : decode cX8_keep 37 = .ok (.ireturn, 1) := by decide +kernel
theorem dX8_again_0 : decode cX8_again 0 = .ok (.iload_n 1, 1) := by decide +kernel
theorem dX8_again_1 : decode cX8_again 1 = .ok (.ifCond .lt 8, 3) := by decide +kernel
theorem dX8_again_4 : decode cX8_again 4 = .ok (.iload_n 1, 1) := by decide +kernel
theorem dX8_again_5 : decode cX8_again 5 = .ok (.iconst 2, 1) := by decide +kernel
theorem dX8_again_6 : decode cX8_again 6 = .ok (.if_icmp .lt 5, 3) := by decide +kernel
theorem dX8_again_9 : decode cX8_again 9 = .ok (.iconst (-1), 1) := by decide +kernel
theorem dX8_again_10 : decode cX8_again 10 = .ok (.ireturn, 1) := by decide +kernel
theorem dX8_again_11 : decode cX8_again 11 = .ok (.aload_n 0, 1) := by decide +kernel
theorem dX8_again_12 : decode cX8_again 12 = .ok (.getfield 57, 3) := by decide +kernel
theorem dX8_again_15 : decode cX8_again 15 = .ok (.iload_n 1, 1) := by decide +kernel
theorem dX8_again_16 : decode cX8_again 16 = .ok (.baload, 1) := by decide +kernel
theorem dX8_again_17 : decode cX8_again 17 = .ok (.ifCond .ne 6, 3) := by decide +kernel
theorem dX8_again_20 : decode cX8_again 20 = .ok (.bipush (-3), 2) := by decide +kernel
theorem dX8_again_22 : decode cX8_again 22 = .ok (.ireturn, 1) := by decide +kernel
theorem dX8_again_23 : decode cX8_again 23 = .ok (.aload_n 0, 1) := by decide +kernel
theorem dX8_again_24 : decode cX8_again 24 = .ok (.getfield 53, 3) := by decide +kernel
theorem dX8_again_27 : decode cX8_again 27 = .ok (.iload_n 1, 1) := by decide +kernel
theorem dX8_again_28 : decode cX8_again 28 = .ok (.aload_n 0, 1) := by decide +kernel
theorem dX8_again_29 : decode cX8_again 29 = .ok (.getfield 28, 3) := by decide +kernel
theorem dX8_again_32 : decode cX8_again 32 = .ok (.invokevirtual 250, 3) := by decide +kernel
theorem dX8_again_35 : decode cX8_again 35 = .ok (.aload_n 0, 1) := by decide +kernel
theorem dX8_again_36 : decode cX8_again 36 = .ok (.getfield 44, 3) := by decide +kernel
theorem dX8_again_39 : decode cX8_again 39 = .ok (.invokevirtual 93, 3) := by decide +kernel
theorem dX8_again_42 : decode cX8_again 42 = .ok (.aload_n 0, 1) := by decide +kernel
theorem dX8_again_43 : decode cX8_again 43 = .ok (.getfield 28, 3) := by decide +kernel
theorem dX8_again_46 : decode cX8_again 46 = .ok (.invokevirtual 102, 3) := by decide +kernel
theorem dX8_again_49 : decode cX8_again 49 = .ok (.ireturn, 1) := by decide +kernel
theorem dX8_isHole_0 : decode cX8_isHole 0 = .ok (.iload_n 0, 1) := by decide +kernel
theorem dX8_isHole_1 : decode cX8_isHole 1 = .ok (.ifCond .lt 13, 3) := by decide +kernel
theorem dX8_isHole_4 : decode cX8_isHole 4 = .ok (.iload_n 0, 1) := by decide +kernel
theorem dX8_isHole_5 : decode cX8_isHole 5 = .ok (.bipush 12, 2) := by decide +kernel
theorem dX8_isHole_7 : decode cX8_isHole 7 = .ok (.if_icmp .ge 7, 3) := by decide +kernel
theorem dX8_isHole_10 : decode cX8_isHole 10 = .ok (.iconst 1, 1) := by decide +kernel
theorem dX8_isHole_11 : decode cX8_isHole 11 = .ok (.goto 4, 3) := by decide +kernel
theorem dX8_isHole_14 : decode cX8_isHole 14 = .ok (.iconst 0, 1) := by decide +kernel
theorem dX8_isHole_15 : decode cX8_isHole 15 = .ok (.ireturn, 1) := by decide +kernel
theorem dX8_isRow_0 : decode cX8_isRow 0 = .ok (.iload_n 0, 1) := by decide +kernel
theorem dX8_isRow_1 : decode cX8_isRow 1 = .ok (.ifCond .lt 12, 3) := by decide +kernel
theorem dX8_isRow_4 : decode cX8_isRow 4 = .ok (.iload_n 0, 1) := by decide +kernel
theorem dX8_isRow_5 : decode cX8_isRow 5 = .ok (.iconst 3, 1) := by decide +kernel
theorem dX8_isRow_6 : decode cX8_isRow 6 = .ok (.if_icmp .ge 7, 3) := by decide +kernel
theorem dX8_isRow_9 : decode cX8_isRow 9 = .ok (.iconst 1, 1) := by decide +kernel
theorem dX8_isRow_10 : decode cX8_isRow 10 = .ok (.goto 4, 3) := by decide +kernel
theorem dX8_isRow_13 : decode cX8_isRow 13 = .ok (.iconst 0, 1) := by decide +kernel
theorem dX8_isRow_14 : decode cX8_isRow 14 = .ok (.ireturn, 1) := by decide +kernel
theorem dX8_waitAlone_0 : decode cX8_waitAlone 0 = .ok (.iload_n 1, 1) := by decide +kernel
theorem dX8_waitAlone_1 : decode cX8_waitAlone 1 = .ok (.iconst 2, 1) := by decide +kernel
theorem dX8_waitAlone_2 : decode cX8_waitAlone 2 = .ok (.if_icmp .ne 13, 3) := by decide +kernel
theorem dX8_waitAlone_5 : decode cX8_waitAlone 5 = .ok (.iconst 1, 1) := by decide +kernel
theorem dX8_waitAlone_6 : decode cX8_waitAlone 6 = .ok (.iload_n 0, 1) := by decide +kernel
theorem dX8_waitAlone_7 : decode cX8_waitAlone 7 = .ok (.iconst 2, 1) := by decide +kernel
theorem dX8_waitAlone_8 : decode cX8_waitAlone 8 = .ok (.idiv, 1) := by decide +kernel
theorem dX8_waitAlone_9 : decode cX8_waitAlone 9 = .ok (.invokestatic 253, 3) := by decide +kernel
theorem dX8_waitAlone_12 : decode cX8_waitAlone 12 = .ok (.goto 4, 3) := by decide +kernel
theorem dX8_waitAlone_15 : decode cX8_waitAlone 15 = .ok (.iload_n 0, 1) := by decide +kernel
theorem dX8_waitAlone_16 : decode cX8_waitAlone 16 = .ok (.ireturn, 1) := by decide +kernel
theorem dX8_part_0 : decode cX8_part 0 = .ok (.iload_n 0, 1) := by decide +kernel
theorem dX8_part_1 : decode cX8_part 1 = .ok (.invokestatic 258, 3) := by decide +kernel
theorem dX8_part_4 : decode cX8_part 4 = .ok (.istore_n 3, 1) := by decide +kernel
theorem dX8_part_5 : decode cX8_part 5 = .ok (.iload_n 1, 1) := by decide +kernel
theorem dX8_part_6 : decode cX8_part 6 = .ok (.istore 4, 2) := by decide +kernel
theorem dX8_part_8 : decode cX8_part 8 = .ok (.iconst 0, 1) := by decide +kernel
theorem dX8_part_9 : decode cX8_part 9 = .ok (.istore 5, 2) := by decide +kernel
theorem dX8_part_11 : decode cX8_part 11 = .ok (.iload 5, 2) := by decide +kernel
theorem dX8_part_13 : decode cX8_part 13 = .ok (.bipush 64, 2) := by decide +kernel
theorem dX8_part_15 : decode cX8_part 15 = .ok (.if_icmp .ge 27, 3) := by decide +kernel
theorem dX8_part_18 : decode cX8_part 18 = .ok (.iload 4, 2) := by decide +kernel
theorem dX8_part_20 : decode cX8_part 20 = .ok (.ifCond .eq 22, 3) := by decide +kernel
theorem dX8_part_23 : decode cX8_part 23 = .ok (.iload_n 3, 1) := by decide +kernel
theorem dX8_part_24 : decode cX8_part 24 = .ok (.iload 4, 2) := by decide +kernel
theorem dX8_part_26 : decode cX8_part 26 = .ok (.irem, 1) := by decide +kernel
theorem dX8_part_27 : decode cX8_part 27 = .ok (.istore 6, 2) := by decide +kernel
theorem dX8_part_29 : decode cX8_part 29 = .ok (.iload 4, 2) := by decide +kernel
theorem dX8_part_31 : decode cX8_part 31 = .ok (.istore_n 3, 1) := by decide +kernel
theorem dX8_part_32 : decode cX8_part 32 = .ok (.iload 6, 2) := by decide +kernel
theorem dX8_part_34 : decode cX8_part 34 = .ok (.istore 4, 2) := by decide +kernel
theorem dX8_part_36 : decode cX8_part 36 = .ok (.iinc 5 1, 3) := by decide +kernel
theorem dX8_part_39 : decode cX8_part 39 = .ok (.goto (-28), 3) := by decide +kernel
theorem dX8_part_42 : decode cX8_part 42 = .ok (.iload_n 3, 1) := by decide +kernel
theorem dX8_part_43 : decode cX8_part 43 = .ok (.ifCond .ne 13, 3) := by decide +kernel
theorem dX8_part_46 : decode cX8_part 46 = .ok (.iload_n 2, 1) := by decide +kernel
theorem dX8_part_47 : decode cX8_part 47 = .ok (.ifCond .eq 7, 3) := by decide +kernel
theorem dX8_part_50 : decode cX8_part 50 = .ok (.iload_n 0, 1) := by decide +kernel
theorem dX8_part_51 : decode cX8_part 51 = .ok (.goto 4, 3) := by decide +kernel
theorem dX8_part_54 : decode cX8_part 54 = .ok (.iload_n 1, 1) := by decide +kernel
theorem dX8_part_55 : decode cX8_part 55 = .ok (.ireturn, 1) := by decide +kernel
theorem dX8_part_56 : decode cX8_part 56 = .ok (.iload_n 2, 1) := by decide +kernel
theorem dX8_part_57 : decode cX8_part 57 = .ok (.ifCond .eq 7, 3) := by decide +kernel
theorem dX8_part_60 : decode cX8_part 60 = .ok (.iload_n 0, 1) := by decide +kernel
theorem dX8_part_61 : decode cX8_part 61 = .ok (.goto 4, 3) := by decide +kernel
theorem dX8_part_64 : decode cX8_part 64 = .ok (.iload_n 1, 1) := by decide +kernel
theorem dX8_part_65 : decode cX8_part 65 = .ok (.iload_n 3, 1) := by decide +kernel
theorem dX8_part_66 : decode cX8_part 66 = .ok (.idiv, 1) := by decide +kernel
theorem dX8_part_67 : decode cX8_part 67 = .ok (.ireturn, 1) := by decide +kernel
theorem dX9_init_0 : decode cX9_init 0 = .ok (.aload_n 0, 1) := by decide +kernel
theorem dX9_init_1 : decode cX9_init 1 = .ok (.invokespecial 1, 3) := by decide +kernel
theorem dX9_init_4 : decode cX9_init 4 = .ok (.aload_n 0, 1) := by decide +kernel
theorem dX9_init_5 : decode cX9_init 5 = .ok (.bipush 48, 2) := by decide +kernel
theorem dX9_init_7 : decode cX9_init 7 = .ok (.newarray .int, 2) := by decide +kernel
theorem dX9_init_9 : decode cX9_init 9 = .ok (.putfield 7, 3) := by decide +kernel
theorem dX9_init_12 : decode cX9_init 12 = .ok (.aload_n 0, 1) := by decide +kernel
theorem dX9_init_13 : decode cX9_init 13 = .ok (.bipush 6, 2) := by decide +kernel
theorem dX9_init_15 : decode cX9_init 15 = .ok (.newarray .int, 2) := by decide +kernel
theorem dX9_init_17 : decode cX9_init 17 = .ok (.putfield 13, 3) := by decide +kernel
theorem dX9_init_20 : decode cX9_init 20 = .ok (.aload_n 0, 1) := by decide +kernel
theorem dX9_init_21 : decode cX9_init 21 = .ok (.bipush 6, 2) := by decide +kernel
theorem dX9_init_23 : decode cX9_init 23 = .ok (.newarray .int, 2) := by decide +kernel
theorem dX9_init_25 : decode cX9_init 25 = .ok (.putfield 16, 3) := by decide +kernel
theorem dX9_init_28 : decode cX9_init 28 = .ok (.aload_n 0, 1) := by decide +kernel
theorem dX9_init_29 : decode cX9_init 29 = .ok (.iconst 3, 1) := by decide +kernel
theorem dX9_init_30 : decode cX9_init 30 = .ok (.newarray .int, 2) := by decide +kernel
theorem dX9_init_32 : decode cX9_init 32 = .ok (.putfield 19, 3) := by decide +kernel
theorem dX9_init_35 : decode cX9_init 35 = .ok (.aload_n 0, 1) := by decide +kernel
theorem dX9_init_36 : decode cX9_init 36 = .ok (.bipush 18, 2) := by decide +kernel
theorem dX9_init_38 : decode cX9_init 38 = .ok (.newarray .int, 2) := by decide +kernel
theorem dX9_init_40 : decode cX9_init 40 = .ok (.putfield 22, 3) := by decide +kernel
theorem dX9_init_43 : decode cX9_init 43 = .ok (.aload_n 0, 1) := by decide +kernel
theorem dX9_init_44 : decode cX9_init 44 = .ok (.bipush 6, 2) := by decide +kernel
theorem dX9_init_46 : decode cX9_init 46 = .ok (.newarray .int, 2) := by decide +kernel
theorem dX9_init_48 : decode cX9_init 48 = .ok (.putfield 25, 3) := by decide +kernel
theorem dX9_init_51 : decode cX9_init 51 = .ok (.aload_n 0, 1) := by decide +kernel
theorem dX9_init_52 : decode cX9_init 52 = .ok (.bipush 23, 2) := by decide +kernel
theorem dX9_init_54 : decode cX9_init 54 = .ok (.newarray .int, 2) := by decide +kernel
theorem dX9_init_56 : decode cX9_init 56 = .ok (.putfield 28, 3) := by decide +kernel
theorem dX9_init_59 : decode cX9_init 59 = .ok (.aload_n 0, 1) := by decide +kernel
theorem dX9_init_60 : decode cX9_init 60 = .ok (.bipush 23, 2) := by decide +kernel
theorem dX9_init_62 : decode cX9_init 62 = .ok (.newarray .int, 2) := by decide +kernel
theorem dX9_init_64 : decode cX9_init 64 = .ok (.putfield 31, 3) := by decide +kernel
theorem dX9_init_67 : decode cX9_init 67 = .ok (.aload_n 0, 1) := by decide +kernel
theorem dX9_init_68 : decode cX9_init 68 = .ok (.sipush 322, 3) := by decide +kernel
theorem dX9_init_71 : decode cX9_init 71 = .ok (.newarray .int, 2) := by decide +kernel
theorem dX9_init_73 : decode cX9_init 73 = .ok (.putfield 34, 3) := by decide +kernel
theorem dX9_init_76 : decode cX9_init 76 = .ok (.aload_n 0, 1) := by decide +kernel
theorem dX9_init_77 : decode cX9_init 77 = .ok (.bipush 46, 2) := by decide +kernel
theorem dX9_init_79 : decode cX9_init 79 = .ok (.newarray .int, 2) := by decide +kernel
theorem dX9_init_81 : decode cX9_init 81 = .ok (.putfield 37, 3) := by decide +kernel
theorem dX9_init_84 : decode cX9_init 84 = .ok (.aload_n 0, 1) := by decide +kernel
theorem dX9_init_85 : decode cX9_init 85 = .ok (.iconst 2, 1) := by decide +kernel
theorem dX9_init_86 : decode cX9_init 86 = .ok (.newarray .boolean, 2) := by decide +kernel
theorem dX9_init_88 : decode cX9_init 88 = .ok (.putfield 40, 3) := by decide +kernel
theorem dX9_init_91 : decode cX9_init 91 = .ok (.aload_n 0, 1) := by decide +kernel
theorem dX9_init_92 : decode cX9_init 92 = .ok (.bipush 6, 2) := by decide +kernel
theorem dX9_init_94 : decode cX9_init 94 = .ok (.newarray .int, 2) := by decide +kernel
theorem dX9_init_96 : decode cX9_init 96 = .ok (.putfield 44, 3) := by decide +kernel
theorem dX9_init_99 : decode cX9_init 99 = .ok (.aload_n 0, 1) := by decide +kernel
theorem dX9_init_100 : decode cX9_init 100 = .ok (.bipush 6, 2) := by decide +kernel
theorem dX9_init_102 : decode cX9_init 102 = .ok (.newarray .int, 2) := by decide +kernel
theorem dX9_init_104 : decode cX9_init 104 = .ok (.putfield 47, 3) := by decide +kernel
theorem dX9_init_107 : decode cX9_init 107 = .ok (.aload_n 0, 1) := by decide +kernel
theorem dX9_init_108 : decode cX9_init 108 = .ok (.iconst 3, 1) := by decide +kernel
theorem dX9_init_109 : decode cX9_init 109 = .ok (.newarray .int, 2) := by decide +kernel
theorem dX9_init_111 : decode cX9_init 111 = .ok (.putfield 50, 3) := by decide +kernel
theorem dX9_init_114 : decode cX9_init 114 = .ok (.aload_n 0, 1) := by decide +kernel
theorem dX9_init_115 : decode cX9_init 115 = .ok (.bipush 18, 2) := by decide +kernel
theorem dX9_init_117 : decode cX9_init 117 = .ok (.newarray .int, 2) := by decide +kernel
theorem dX9_init_119 : decode cX9_init 119 = .ok (.putfield 53, 3) := by decide +kernel
theorem dX9_init_122 : decode cX9_init 122 = .ok (.aload_n 0, 1) := by decide +kernel
theorem dX9_init_123 : decode cX9_init 123 = .ok (.bipush 8, 2) := by decide +kernel
theorem dX9_init_125 : decode cX9_init 125 = .ok (.newarray .int, 2) := by decide +kernel
theorem dX9_init_127 : decode cX9_init 127 = .ok (.putfield 56, 3) := by decide +kernel
theorem dX9_init_130 : decode cX9_init 130 = .ok (.return_, 1) := by decide +kernel
theorem dX9_in_0 : decode cX9_in 0 = .ok (.lload_n 0, 1) := by decide +kernel
theorem dX9_in_1 : decode cX9_in 1 = .ok (.lload_n 2, 1) := by decide +kernel
theorem dX9_in_2 : decode cX9_in 2 = .ok (.lcmp, 1) := by decide +kernel
theorem dX9_in_3 : decode cX9_in 3 = .ok (.ifCond .lt 14, 3) := by decide +kernel
theorem dX9_in_6 : decode cX9_in 6 = .ok (.lload_n 0, 1) := by decide +kernel
theorem dX9_in_7 : decode cX9_in 7 = .ok (.lload 4, 2) := by decide +kernel
theorem dX9_in_9 : decode cX9_in 9 = .ok (.lcmp, 1) := by decide +kernel
theorem dX9_in_10 : decode cX9_in 10 = .ok (.ifCond .gt 7, 3) := by decide +kernel
theorem dX9_in_13 : decode cX9_in 13 = .ok (.iconst 1, 1) := by decide +kernel
theorem dX9_in_14 : decode cX9_in 14 = .ok (.goto 4, 3) := by decide +kernel
theorem dX9_in_17 : decode cX9_in 17 = .ok (.iconst 0, 1) := by decide +kernel
theorem dX9_in_18 : decode cX9_in 18 = .ok (.ireturn, 1) := by decide +kernel
theorem dX9_has_0 : decode cX9_has 0 = .ok (.iload_n 0, 1) := by decide +kernel
theorem dX9_has_1 : decode cX9_has 1 = .ok (.iload_n 1, 1) := by decide +kernel
theorem dX9_has_2 : decode cX9_has 2 = .ok (.ishr, 1) := by decide +kernel
theorem dX9_has_3 : decode cX9_has 3 = .ok (.iconst 1, 1) := by decide +kernel
theorem dX9_has_4 : decode cX9_has 4 = .ok (.iand, 1) := by decide +kernel
theorem dX9_has_5 : decode cX9_has 5 = .ok (.iconst 1, 1) := by decide +kernel
theorem dX9_has_6 : decode cX9_has 6 = .ok (.if_icmp .ne 7, 3) := by decide +kernel
theorem dX9_has_9 : decode cX9_has 9 = .ok (.iconst 1, 1) := by decide +kernel
theorem dX9_has_10 : decode cX9_has 10 = .ok (.goto 4, 3) := by decide +kernel
theorem dX9_has_13 : decode cX9_has 13 = .ok (.iconst 0, 1) := by decide +kernel
theorem dX9_has_14 : decode cX9_has 14 = .ok (.ireturn, 1) := by decide +kernel
theorem dX9_many_0 : decode cX9_many 0 = .ok (.iconst 0, 1) := by decide +kernel
theorem dX9_many_1 : decode cX9_many 1 = .ok (.istore_n 1, 1) := by decide +kernel
theorem dX9_many_2 : decode cX9_many 2 = .ok (.iconst 0, 1) := by decide +kernel
theorem dX9_many_3 : decode cX9_many 3 = .ok (.istore_n 2, 1) := by decide +kernel
theorem dX9_many_4 : decode cX9_many 4 = .ok (.iload_n 2, 1) := by decide +kernel
theorem dX9_many_5 : decode cX9_many 5 = .ok (.bipush 6, 2) := by decide +kernel
theorem dX9_many_7 : decode cX9_many 7 = .ok (.if_icmp .ge 17, 3) := by decide +kernel
theorem dX9_many_10 : decode cX9_many 10 = .ok (.iload_n 1, 1) := by decide +kernel
theorem dX9_many_11 : decode cX9_many 11 = .ok (.iload_n 0, 1) := by decide +kernel
theorem dX9_many_12 : decode cX9_many 12 = .ok (.iload_n 2, 1) := by decide +kernel
theorem dX9_many_13 : decode cX9_many 13 = .ok (.ishr, 1) := by decide +kernel
theorem dX9_many_14 : decode cX9_many 14 = .ok (.iconst 1, 1) := by decide +kernel
theorem dX9_many_15 : decode cX9_many 15 = .ok (.iand, 1) := by decide +kernel
theorem dX9_many_16 : decode cX9_many 16 = .ok (.iadd, 1) := by decide +kernel
theorem dX9_many_17 : decode cX9_many 17 = .ok (.istore_n 1, 1) := by decide +kernel
theorem dX9_many_18 : decode cX9_many 18 = .ok (.iinc 2 1, 3) := by decide +kernel
theorem dX9_many_21 : decode cX9_many 21 = .ok (.goto (-17), 3) := by decide +kernel
theorem dX9_many_24 : decode cX9_many 24 = .ok (.iload_n 1, 1) := by decide +kernel
theorem dX9_many_25 : decode cX9_many 25 = .ok (.ireturn, 1) := by decide +kernel
theorem dX9_power_0 : decode cX9_power 0 = .ok (.iconst 1, 1) := by decide +kernel
theorem dX9_power_1 : decode cX9_power 1 = .ok (.istore_n 2, 1) := by decide +kernel
theorem dX9_power_2 : decode cX9_power 2 = .ok (.iconst 0, 1) := by decide +kernel
theorem dX9_power_3 : decode cX9_power 3 = .ok (.istore_n 3, 1) := by decide +kernel
theorem dX9_power_4 : decode cX9_power 4 = .ok (.iload_n 3, 1) := by decide +kernel
theorem dX9_power_5 : decode cX9_power 5 = .ok (.iload_n 1, 1) := by decide +kernel
theorem dX9_power_6 : decode cX9_power 6 = .ok (.if_icmp .ge 13, 3) := by decide +kernel
theorem dX9_power_9 : decode cX9_power 9 = .ok (.iload_n 2, 1) := by decide +kernel
theorem dX9_power_10 : decode cX9_power 10 = .ok (.iload_n 0, 1) := by decide +kernel
theorem dX9_power_11 : decode cX9_power 11 = .ok (.imul, 1) := by decide +kernel
theorem dX9_power_12 : decode cX9_power 12 = .ok (.istore_n 2, 1) := by decide +kernel
theorem dX9_power_13 : decode cX9_power 13 = .ok (.iinc 3 1, 3) := by decide +kernel
theorem dX9_power_16 : decode cX9_power 16 = .ok (.goto (-12), 3) := by decide +kernel
theorem dX9_power_19 : decode cX9_power 19 = .ok (.iload_n 2, 1) := by decide +kernel
theorem dX9_power_20 : decode cX9_power 20 = .ok (.ireturn, 1) := by decide +kernel
theorem dX9_noLetter_0 : decode cX9_noLetter 0 = .ok (.iload_n 1, 1) := by decide +kernel
theorem dX9_noLetter_1 : decode cX9_noLetter 1 = .ok (.i2l, 1) := by decide +kernel
theorem dX9_noLetter_2 : decode cX9_noLetter 2 = .ok (.lconst 0, 1) := by decide +kernel
theorem dX9_noLetter_3 : decode cX9_noLetter 3 = .ok (.aload_n 0, 1) := by decide +kernel
theorem dX9_noLetter_4 : decode cX9_noLetter 4 = .ok (.getfield 63, 3) := by decide +kernel
theorem dX9_noLetter_7 : decode cX9_noLetter 7 = .ok (.iconst 1, 1) := by decide +kernel
theorem dX9_noLetter_8 : decode cX9_noLetter 8 = .ok (.isub, 1) := by decide +kernel
theorem dX9_noLetter_9 : decode cX9_noLetter 9 = .ok (.i2l, 1) := by decide +kernel
theorem dX9_noLetter_10 : decode cX9_noLetter 10 = .ok (.invokestatic 66, 3) := by decide +kernel
theorem dX9_noLetter_13 : decode cX9_noLetter 13 = .ok (.ifCond .ne 7, 3) := by decide +kernel
theorem dX9_noLetter_16 : decode cX9_noLetter 16 = .ok (.iconst 1, 1) := by decide +kernel
theorem dX9_noLetter_17 : decode cX9_noLetter 17 = .ok (.goto 4, 3) := by decide +kernel
theorem dX9_noLetter_20 : decode cX9_noLetter 20 = .ok (.iconst 0, 1) := by decide +kernel
theorem dX9_noLetter_21 : decode cX9_noLetter 21 = .ok (.ireturn, 1) := by decide +kernel
theorem dX9_noClerk_0 : decode cX9_noClerk 0 = .ok (.iload_n 1, 1) := by decide +kernel
theorem dX9_noClerk_1 : decode cX9_noClerk 1 = .ok (.i2l, 1) := by decide +kernel
theorem dX9_noClerk_2 : decode cX9_noClerk 2 = .ok (.lconst 0, 1) := by decide +kernel
theorem dX9_noClerk_3 : decode cX9_noClerk 3 = .ok (.aload_n 0, 1) := by decide +kernel
theorem dX9_noClerk_4 : decode cX9_noClerk 4 = .ok (.getfield 70, 3) := by decide +kernel
theorem dX9_noClerk_7 : decode cX9_noClerk 7 = .ok (.iconst 1, 1) := by decide +kernel
theorem dX9_noClerk_8 : decode cX9_noClerk 8 = .ok (.isub, 1) := by decide +kernel
theorem dX9_noClerk_9 : decode cX9_noClerk 9 = .ok (.i2l, 1) := by decide +kernel
theorem dX9_noClerk_10 : decode cX9_noClerk 10 = .ok (.invokestatic 66, 3) := by decide +kernel
theorem dX9_noClerk_13 : decode cX9_noClerk 13 = .ok (.ifCond .ne 7, 3) := by decide +kernel
theorem dX9_noClerk_16 : decode cX9_noClerk 16 = .ok (.iconst 1, 1) := by decide +kernel
theorem dX9_noClerk_17 : decode cX9_noClerk 17 = .ok (.goto 4, 3) := by decide +kernel
theorem dX9_noClerk_20 : decode cX9_noClerk 20 = .ok (.iconst 0, 1) := by decide +kernel
theorem dX9_noClerk_21 : decode cX9_noClerk 21 = .ok (.ireturn, 1) := by decide +kernel
theorem dX9_write_0 : decode cX9_write 0 = .ok (.aload_n 0, 1) := by decide +kernel
theorem dX9_write_1 : decode cX9_write 1 = .ok (.iconst 0, 1) := by decide +kernel
theorem dX9_write_2 : decode cX9_write 2 = .ok (.putfield 59, 3) := by decide +kernel
theorem dX9_write_5 : decode cX9_write 5 = .ok (.iload_n 1, 1) := by decide +kernel
theorem dX9_write_6 : decode cX9_write 6 = .ok (.i2l, 1) := by decide +kernel
theorem dX9_write_7 : decode cX9_write 7 = .ok (.lconst 0, 1) := by decide +kernel
theorem dX9_write_8 : decode cX9_write 8 = .ok (.ldc2_w 73, 3) := by decide +kernel
theorem dX9_write_11 : decode cX9_write 11 = .ok (.invokestatic 66, 3) := by decide +kernel
theorem dX9_write_14 : decode cX9_write 14 = .ok (.ifCond .ne 6, 3) := by decide +kernel
theorem dX9_write_17 : decode cX9_write 17 = .ok (.bipush (-2), 2) := by decide +kernel
theorem dX9_write_19 : decode cX9_write 19 = .ok (.ireturn, 1) := by decide +kernel
theorem dX9_write_20 : decode cX9_write 20 = .ok (.aload_n 0, 1) := by decide +kernel
theorem dX9_write_21 : decode cX9_write 21 = .ok (.getfield 75, 3) := by decide +kernel
theorem dX9_write_24 : decode cX9_write 24 = .ok (.bipush 48, 2) := by decide +kernel
theorem dX9_write_26 : decode cX9_write 26 = .ok (.if_icmp .ne 6, 3) := by decide +kernel
theorem dX9_write_29 : decode cX9_write 29 = .ok (.bipush (-4), 2) := by decide +kernel
theorem dX9_write_31 : decode cX9_write 31 = .ok (.ireturn, 1) := by decide +kernel
theorem dX9_write_32 : decode cX9_write 32 = .ok (.aload_n 0, 1) := by decide +kernel
theorem dX9_write_33 : decode cX9_write 33 = .ok (.getfield 7, 3) := by decide +kernel
theorem dX9_write_36 : decode cX9_write 36 = .ok (.aload_n 0, 1) := by decide +kernel
theorem dX9_write_37 : decode cX9_write 37 = .ok (.getfield 75, 3) := by decide +kernel
theorem dX9_write_40 : decode cX9_write 40 = .ok (.iload_n 1, 1) := by decide +kernel
theorem dX9_write_41 : decode cX9_write 41 = .ok (.iastore, 1) := by decide +kernel
theorem dX9_write_42 : decode cX9_write 42 = .ok (.aload_n 0, 1) := by decide +kernel
theorem dX9_write_43 : decode cX9_write 43 = .ok (.dup, 1) := by decide +kernel
theorem dX9_write_44 : decode cX9_write 44 = .ok (.getfield 75, 3) := by decide +kernel
theorem dX9_write_47 : decode cX9_write 47 = .ok (.iconst 1, 1) := by decide +kernel
theorem dX9_write_48 : decode cX9_write 48 = .ok (.iadd, 1) := by decide +kernel
theorem dX9_write_49 : decode cX9_write 49 = .ok (.putfield 75, 3) := by decide +kernel
theorem dX9_write_52 : decode cX9_write 52 = .ok (.aload_n 0, 1) := by decide +kernel
theorem dX9_write_53 : decode cX9_write 53 = .ok (.getfield 75, 3) := by decide +kernel
theorem dX9_write_56 : decode cX9_write 56 = .ok (.ireturn, 1) := by decide +kernel
theorem dX9_wipe_0 : decode cX9_wipe 0 = .ok (.aload_n 0, 1) := by decide +kernel
theorem dX9_wipe_1 : decode cX9_wipe 1 = .ok (.iconst 0, 1) := by decide +kernel
theorem dX9_wipe_2 : decode cX9_wipe 2 = .ok (.putfield 59, 3) := by decide +kernel
theorem dX9_wipe_5 : decode cX9_wipe 5 = .ok (.aload_n 0, 1) := by decide +kernel
theorem dX9_wipe_6 : decode cX9_wipe 6 = .ok (.getfield 75, 3) := by decide +kernel
theorem dX9_wipe_9 : decode cX9_wipe 9 = .ok (.istore_n 1, 1) := by decide +kernel
theorem dX9_wipe_10 : decode cX9_wipe 10 = .ok (.aload_n 0, 1) := by decide +kernel
theorem dX9_wipe_11 : decode cX9_wipe 11 = .ok (.iconst 0, 1) := by decide +kernel
theorem dX9_wipe_12 : decode cX9_wipe 12 = .ok (.putfield 75, 3) := by decide +kernel
theorem dX9_wipe_15 : decode cX9_wipe 15 = .ok (.iload_n 1, 1) := by decide +kernel
theorem dX9_wipe_16 : decode cX9_wipe 16 = .ok (.ireturn, 1) := by decide +kernel
theorem dX9_from_0 : decode cX9_from 0 = .ok (.aload_n 0, 1) := by decide +kernel
theorem dX9_from_1 : decode cX9_from 1 = .ok (.getfield 78, 3) := by decide +kernel
theorem dX9_from_4 : decode cX9_from 4 = .ok (.aload_n 0, 1) := by decide +kernel
theorem dX9_from_5 : decode cX9_from 5 = .ok (.getfield 75, 3) := by decide +kernel
theorem dX9_from_8 : decode cX9_from 8 = .ok (.if_icmp .eq 25, 3) := by decide +kernel
theorem dX9_from_11 : decode cX9_from 11 = .ok (.aload_n 0, 1) := by decide +kernel
theorem dX9_from_12 : decode cX9_from 12 = .ok (.getfield 7, 3) := by decide +kernel
theorem dX9_from_15 : decode cX9_from 15 = .ok (.aload_n 0, 1) := by decide +kernel
theorem dX9_from_16 : decode cX9_from 16 = .ok (.getfield 78, 3) := by decide +kernel
theorem dX9_from_19 : decode cX9_from 19 = .ok (.iaload, 1) := by decide +kernel
theorem dX9_from_20 : decode cX9_from 20 = .ok (.iload_n 1, 1) := by decide +kernel
theorem dX9_from_21 : decode cX9_from 21 = .ok (.isub, 1) := by decide +kernel
theorem dX9_from_22 : decode cX9_from 22 = .ok (.i2l, 1) := by decide +kernel
theorem dX9_from_23 : decode cX9_from 23 = .ok (.iload_n 2, 1) := by decide +kernel
theorem dX9_from_24 : decode cX9_from 24 = .ok (.i2l, 1) := by decide +kernel
theorem dX9_from_25 : decode cX9_from 25 = .ok (.iload_n 3, 1) := by decide +kernel
theorem dX9_from_26 : decode cX9_from 26 = .ok (.i2l, 1) := by decide +kernel
theorem dX9_from_27 : decode cX9_from 27 = .ok (.invokestatic 66, 3) := by decide +kernel
theorem dX9_from_30 : decode cX9_from 30 = .ok (.ifCond .ne 6, 3) := by decide +kernel
theorem dX9_from_33 : decode cX9_from 33 = .ok (.bipush (-9), 2) := by decide +kernel
theorem dX9_from_35 : decode cX9_from 35 = .ok (.ireturn, 1) := by decide +kernel
theorem dX9_from_36 : decode cX9_from 36 = .ok (.aload_n 0, 1) := by decide +kernel
theorem dX9_from_37 : decode cX9_from 37 = .ok (.dup, 1) := by decide +kernel
theorem dX9_from_38 : decode cX9_from 38 = .ok (.getfield 78, 3) := by decide +kernel
theorem dX9_from_41 : decode cX9_from 41 = .ok (.iconst 1, 1) := by decide +kernel
theorem dX9_from_42 : decode cX9_from 42 = .ok (.iadd, 1) := by decide +kernel
theorem dX9_from_43 : decode cX9_from 43 = .ok (.putfield 78, 3) := by decide +kernel
theorem dX9_from_46 : decode cX9_from 46 = .ok (.aload_n 0, 1) := by decide +kernel
theorem dX9_from_47 : decode cX9_from 47 = .ok (.getfield 7, 3) := by decide +kernel
theorem dX9_from_50 : decode cX9_from 50 = .ok (.aload_n 0, 1) := by decide +kernel
theorem dX9_from_51 : decode cX9_from 51 = .ok (.getfield 78, 3) := by decide +kernel
theorem dX9_from_54 : decode cX9_from 54 = .ok (.iconst 1, 1) := by decide +kernel
theorem dX9_from_55 : decode cX9_from 55 = .ok (.isub, 1) := by decide +kernel
theorem dX9_from_56 : decode cX9_from 56 = .ok (.iaload, 1) := by decide +kernel
theorem dX9_from_57 : decode cX9_from 57 = .ok (.iload_n 1, 1) := by decide +kernel
theorem dX9_from_58 : decode cX9_from 58 = .ok (.isub, 1) := by decide +kernel
theorem dX9_from_59 : decode cX9_from 59 = .ok (.ireturn, 1) := by decide +kernel
theorem dX9_readIn_0 : decode cX9_readIn 0 = .ok (.iconst 0, 1) := by decide +kernel
theorem dX9_readIn_1 : decode cX9_readIn 1 = .ok (.istore_n 2, 1) := by decide +kernel
theorem dX9_readIn_2 : decode cX9_readIn 2 = .ok (.iconst 0, 1) := by decide +kernel
theorem dX9_readIn_3 : decode cX9_readIn 3 = .ok (.istore_n 3, 1) := by decide +kernel
theorem dX9_readIn_4 : decode cX9_readIn 4 = .ok (.iload_n 3, 1) := by decide +kernel
theorem dX9_readIn_5 : decode cX9_readIn 5 = .ok (.aload_n 0, 1) := by decide +kernel
theorem dX9_readIn_6 : decode cX9_readIn 6 = .ok (.getfield 81, 3) := by decide +kernel
theorem dX9_readIn_9 : decode cX9_readIn 9 = .ok (.if_icmp .ge 29, 3) := by decide +kernel
theorem dX9_readIn_12 : decode cX9_readIn 12 = .ok (.iload_n 2, 1) := by decide +kernel
theorem dX9_readIn_13 : decode cX9_readIn 13 = .ok (.aload_n 0, 1) := by decide +kernel
theorem dX9_readIn_14 : decode cX9_readIn 14 = .ok (.getfield 22, 3) := by decide +kernel
theorem dX9_readIn_17 : decode cX9_readIn 17 = .ok (.iconst 3, 1) := by decide +kernel
theorem dX9_readIn_18 : decode cX9_readIn 18 = .ok (.iload_n 3, 1) := by decide +kernel
theorem dX9_readIn_19 : decode cX9_readIn 19 = .ok (.imul, 1) := by decide +kernel
theorem dX9_readIn_20 : decode cX9_readIn 20 = .ok (.iaload, 1) := by decide +kernel
theorem dX9_readIn_21 : decode cX9_readIn 21 = .ok (.iload_n 1, 1) := by decide +kernel
theorem dX9_readIn_22 : decode cX9_readIn 22 = .ok (.if_icmp .ne 7, 3) := by decide +kernel
theorem dX9_readIn_25 : decode cX9_readIn 25 = .ok (.iconst 1, 1) := by decide +kernel
theorem dX9_readIn_26 : decode cX9_readIn 26 = .ok (.goto 4, 3) := by decide +kernel
theorem dX9_readIn_29 : decode cX9_readIn 29 = .ok (.iconst 0, 1) := by decide +kernel
theorem dX9_readIn_30 : decode cX9_readIn 30 = .ok (.iadd, 1) := by decide +kernel
theorem dX9_readIn_31 : decode cX9_readIn 31 = .ok (.istore_n 2, 1) := by decide +kernel
theorem dX9_readIn_32 : decode cX9_readIn 32 = .ok (.iinc 3 1, 3) := by decide +kernel
theorem dX9_readIn_35 : decode cX9_readIn 35 = .ok (.goto (-31), 3) := by decide +kernel
theorem dX9_readIn_38 : decode cX9_readIn 38 = .ok (.iload_n 2, 1) := by decide +kernel
theorem dX9_readIn_39 : decode cX9_readIn 39 = .ok (.ireturn, 1) := by decide +kernel
theorem dX9_readOneLetter_0 : decode cX9_readOneLetter 0 = .ok (.aload_n 0, 1) := by decide +kernel
theorem dX9_readOneLetter_1 : decode cX9_readOneLetter 1 = .ok (.bipush 97, 2) := by decide +kernel
theorem dX9_readOneLetter_3 : decode cX9_readOneLetter 3 = .ok (.iconst 0, 1) := by decide +kernel
theorem dX9_readOneLetter_4 : decode cX9_readOneLetter 4 = .ok (.bipush 11, 2) := by decide +kernel
theorem dX9_readOneLetter_6 : decode cX9_readOneLetter 6 = .ok (.invokevirtual 84, 3) := by decide +kernel
theorem dX9_readOneLetter_9 : decode cX9_readOneLetter 9 = .ok (.istore_n 1, 1) := by decide +kernel
theorem dX9_readOneLetter_10 : decode cX9_readOneLetter 10 = .ok (.iload_n 1, 1) := by decide +kernel
theorem dX9_readOneLetter_11 : decode cX9_readOneLetter 11 = .ok (.bipush (-9), 2) := by decide +kernel
theorem dX9_readOneLetter_13 : decode cX9_readOneLetter 13 = .ok (.if_icmp .ne 5, 3) := by decide +kernel
theorem dX9_readOneLetter_16 : decode cX9_readOneLetter 16 = .ok (.iconst 0, 1) := by decide +kernel
theorem dX9_readOneLetter_17 : decode cX9_readOneLetter 17 = .ok (.ireturn, 1) := by decide +kernel
theorem dX9_readOneLetter_18 : decode cX9_readOneLetter 18 = .ok (.aload_n 0, 1) := by decide +kernel
theorem dX9_readOneLetter_19 : decode cX9_readOneLetter 19 = .ok (.iload_n 1, 1) := by decide +kernel
theorem dX9_readOneLetter_20 : decode cX9_readOneLetter 20 = .ok (.invokevirtual 88, 3) := by decide +kernel
theorem dX9_readOneLetter_23 : decode cX9_readOneLetter 23 = .ok (.iconst 2, 1) := by decide +kernel
theorem dX9_readOneLetter_24 : decode cX9_readOneLetter 24 = .ok (.if_icmp .ne 15, 3) := by decide +kernel
theorem dX9_readOneLetter_27 : decode cX9_readOneLetter 27 = .ok (.aload_n 0, 1) := by decide +kernel
theorem dX9_readOneLetter_28 : decode cX9_readOneLetter 28 = .ok (.dup, 1) := by decide +kernel
theorem dX9_readOneLetter_29 : decode cX9_readOneLetter 29 = .ok (.getfield 78, 3) := by decide +kernel
theorem dX9_readOneLetter_32 : decode cX9_readOneLetter 32 = .ok (.iconst 1, 1) := by decide +kernel
theorem dX9_readOneLetter_33 : decode cX9_readOneLetter 33 = .ok (.isub, 1) := by decide +kernel
theorem dX9_readOneLetter_34 : decode cX9_readOneLetter 34 = .ok (.putfield 78, 3) := by decide +kernel
theorem dX9_readOneLetter_37 : decode cX9_readOneLetter 37 = .ok (.iconst 0, 1) := by decide +kernel
theorem dX9_readOneLetter_38 : decode cX9_readOneLetter 38 = .ok (.ireturn, 1) := by decide +kernel
theorem dX9_readOneLetter_39 : decode cX9_readOneLetter 39 = .ok (.aload_n 0, 1) := by decide +kernel
theorem dX9_readOneLetter_40 : decode cX9_readOneLetter 40 = .ok (.bipush 48, 2) := by decide +kernel
theorem dX9_readOneLetter_42 : decode cX9_readOneLetter 42 = .ok (.iconst 1, 1) := by decide +kernel
theorem dX9_readOneLetter_43 : decode cX9_readOneLetter 43 = .ok (.bipush 9, 2) := by decide +kernel
theorem dX9_readOneLetter_45 : decode cX9_readOneLetter 45 = .ok (.invokevirtual 84, 3) := by decide +kernel
theorem dX9_readOneLetter_48 : decode cX9_readOneLetter 48 = .ok (.istore_n 2, 1) := by decide +kernel
theorem dX9_readOneLetter_49 : decode cX9_readOneLetter 49 = .ok (.iload_n 2, 1) := by decide +kernel
theorem dX9_readOneLetter_50 : decode cX9_readOneLetter 50 = .ok (.bipush (-9), 2) := by decide +kernel
theorem dX9_readOneLetter_52 : decode cX9_readOneLetter 52 = .ok (.if_icmp .ne 8, 3) := by decide +kernel
theorem dX9_readOneLetter_55 : decode cX9_readOneLetter 55 = .ok (.bipush (-9), 2) := by decide +kernel
theorem dX9_readOneLetter_57 : decode cX9_readOneLetter 57 = .ok (.goto 11, 3) := by decide +kernel
theorem dX9_readOneLetter_60 : decode cX9_readOneLetter 60 = .ok (.aload_n 0, 1) := by decide +kernel
theorem dX9_readOneLetter_61 : decode cX9_readOneLetter 61 = .ok (.bipush 48, 2) := by decide +kernel
theorem dX9_readOneLetter_63 : decode cX9_readOneLetter 63 = .ok (.iconst 0, 1) := by decide +kernel
theorem dX9_readOneLetter_64 : decode cX9_readOneLetter 64 = .ok (.iconst 3, 1) := by decide +kernel
theorem dX9_readOneLetter_65 : decode cX9_readOneLetter 65 = .ok (.invokevirtual 84, 3) := by decide +kernel
theorem dX9_readOneLetter_68 : decode cX9_readOneLetter 68 = .ok (.istore_n 3, 1) := by decide +kernel
theorem dX9_readOneLetter_69 : decode cX9_readOneLetter 69 = .ok (.iload_n 3, 1) := by decide +kernel
theorem dX9_readOneLetter_70 : decode cX9_readOneLetter 70 = .ok (.bipush (-9), 2) := by decide +kernel
theorem dX9_readOneLetter_72 : decode cX9_readOneLetter 72 = .ok (.if_icmp .ne 5, 3) := by decide +kernel
theorem dX9_readOneLetter_75 : decode cX9_readOneLetter 75 = .ok (.iconst 0, 1) := by decide +kernel
theorem dX9_readOneLetter_76 : decode cX9_readOneLetter 76 = .ok (.ireturn, 1) := by decide +kernel
theorem dX9_readOneLetter_77 : decode cX9_readOneLetter 77 = .ok (.aload_n 0, 1) := by decide +kernel
theorem dX9_readOneLetter_78 : decode cX9_readOneLetter 78 = .ok (.getfield 22, 3) := by decide +kernel
theorem dX9_readOneLetter_81 : decode cX9_readOneLetter 81 = .ok (.iconst 3, 1) := by decide +kernel
theorem dX9_readOneLetter_82 : decode cX9_readOneLetter 82 = .ok (.aload_n 0, 1) := by decide +kernel
theorem dX9_readOneLetter_83 : decode cX9_readOneLetter 83 = .ok (.getfield 81, 3) := by decide +kernel
theorem dX9_readOneLetter_86 : decode cX9_readOneLetter 86 = .ok (.imul, 1) := by decide +kernel
theorem dX9_readOneLetter_87 : decode cX9_readOneLetter 87 = .ok (.iload_n 1, 1) := by decide +kernel
theorem dX9_readOneLetter_88 : decode cX9_readOneLetter 88 = .ok (.iastore, 1) := by decide +kernel
theorem dX9_readOneLetter_89 : decode cX9_readOneLetter 89 = .ok (.aload_n 0, 1) := by decide +kernel
theorem dX9_readOneLetter_90 : decode cX9_readOneLetter 90 = .ok (.getfield 22, 3) := by decide +kernel
theorem dX9_readOneLetter_93 : decode cX9_readOneLetter 93 = .ok (.iconst 3, 1) := by decide +kernel
theorem dX9_readOneLetter_94 : decode cX9_readOneLetter 94 = .ok (.aload_n 0, 1) := by decide +kernel
theorem dX9_readOneLetter_95 : decode cX9_readOneLetter 95 = .ok (.getfield 81, 3) := by decide +kernel
theorem dX9_readOneLetter_98 : decode cX9_readOneLetter 98 = .ok (.imul, 1) := by decide +kernel
theorem dX9_readOneLetter_99 : decode cX9_readOneLetter 99 = .ok (.iconst 1, 1) := by decide +kernel
theorem dX9_readOneLetter_100 : decode cX9_readOneLetter 100 = .ok (.iadd, 1) := by decide +kernel
theorem dX9_readOneLetter_101 : decode cX9_readOneLetter 101 = .ok (.iload_n 2, 1) := by decide +kernel
theorem dX9_readOneLetter_102 : decode cX9_readOneLetter 102 = .ok (.iastore, 1) := by decide +kernel
theorem dX9_readOneLetter_103 : decode cX9_readOneLetter 103 = .ok (.aload_n 0, 1) := by decide +kernel
theorem dX9_readOneLetter_104 : decode cX9_readOneLetter 104 = .ok (.getfield 22, 3) := by decide +kernel
theorem dX9_readOneLetter_107 : decode cX9_readOneLetter 107 = .ok (.iconst 3, 1) := by decide +kernel
theorem dX9_readOneLetter_108 : decode cX9_readOneLetter 108 = .ok (.aload_n 0, 1) := by decide +kernel
theorem dX9_readOneLetter_109 : decode cX9_readOneLetter 109 = .ok (.getfield 81, 3) := by decide +kernel
theorem dX9_readOneLetter_112 : decode cX9_readOneLetter 112 = .ok (.imul, 1) := by decide +kernel
theorem dX9_readOneLetter_113 : decode cX9_readOneLetter 113 = .ok (.iconst 2, 1) := by decide +kernel
theorem dX9_readOneLetter_114 : decode cX9_readOneLetter 114 = .ok (.iadd, 1) := by decide +kernel
theorem dX9_readOneLetter_115 : decode cX9_readOneLetter 115 = .ok (.iload_n 3, 1) := by decide +kernel
theorem dX9_readOneLetter_116 : decode cX9_readOneLetter 116 = .ok (.iastore, 1) := by decide +kernel
theorem dX9_readOneLetter_117 : decode cX9_readOneLetter 117 = .ok (.aload_n 0, 1) := by decide +kernel
theorem dX9_readOneLetter_118 : decode cX9_readOneLetter 118 = .ok (.dup, 1) := by decide +kernel
theorem dX9_readOneLetter_119 : decode cX9_readOneLetter 119 = .ok (.getfield 81, 3) := by decide +kernel
theorem dX9_readOneLetter_122 : decode cX9_readOneLetter 122 = .ok (.iconst 1, 1) := by decide +kernel
theorem dX9_readOneLetter_123 : decode cX9_readOneLetter 123 = .ok (.iadd, 1) := by decide +kernel
theorem dX9_readOneLetter_124 : decode cX9_readOneLetter 124 = .ok (.putfield 81, 3) := by decide +kernel
theorem dX9_readOneLetter_127 : decode cX9_readOneLetter 127 = .ok (.iconst 1, 1) := by decide +kernel
theorem dX9_readOneLetter_128 : decode cX9_readOneLetter 128 = .ok (.ireturn, 1) := by decide +kernel
theorem dX9_readOneClerk_0 : decode cX9_readOneClerk 0 = .ok (.aload_n 0, 1) := by decide +kernel
theorem dX9_readOneClerk_1 : decode cX9_readOneClerk 1 = .ok (.bipush 48, 2) := by decide +kernel
theorem dX9_readOneClerk_3 : decode cX9_readOneClerk 3 = .ok (.iconst 0, 1) := by decide +kernel
theorem dX9_readOneClerk_4 : decode cX9_readOneClerk 4 = .ok (.iconst 2, 1) := by decide +kernel
theorem dX9_readOneClerk_5 : decode cX9_readOneClerk 5 = .ok (.invokevirtual 84, 3) := by decide +kernel
theorem dX9_readOneClerk_8 : decode cX9_readOneClerk 8 = .ok (.istore_n 1, 1) := by decide +kernel
theorem dX9_readOneClerk_9 : decode cX9_readOneClerk 9 = .ok (.iload_n 1, 1) := by decide +kernel
theorem dX9_readOneClerk_10 : decode cX9_readOneClerk 10 = .ok (.bipush (-9), 2) := by decide +kernel
theorem dX9_readOneClerk_12 : decode cX9_readOneClerk 12 = .ok (.if_icmp .ne 8, 3) := by decide +kernel
theorem dX9_readOneClerk_15 : decode cX9_readOneClerk 15 = .ok (.bipush (-9), 2) := by decide +kernel
theorem dX9_readOneClerk_17 : decode cX9_readOneClerk 17 = .ok (.goto 11, 3) := by decide +kernel
theorem dX9_readOneClerk_20 : decode cX9_readOneClerk 20 = .ok (.aload_n 0, 1) := by decide +kernel
theorem dX9_readOneClerk_21 : decode cX9_readOneClerk 21 = .ok (.bipush 48, 2) := by decide +kernel
theorem dX9_readOneClerk_23 : decode cX9_readOneClerk 23 = .ok (.iconst 1, 1) := by decide +kernel
theorem dX9_readOneClerk_24 : decode cX9_readOneClerk 24 = .ok (.iconst 3, 1) := by decide +kernel
theorem dX9_readOneClerk_25 : decode cX9_readOneClerk 25 = .ok (.invokevirtual 84, 3) := by decide +kernel
theorem dX9_readOneClerk_28 : decode cX9_readOneClerk 28 = .ok (.istore_n 2, 1) := by decide +kernel
theorem dX9_readOneClerk_29 : decode cX9_readOneClerk 29 = .ok (.iload_n 2, 1) := by decide +kernel
