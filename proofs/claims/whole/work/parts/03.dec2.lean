theorem dX2_firstThatCanNotBe_46 : decode cX2_firstThatCanNotBe 46 = .ok (.goto (-30), 3) := by decide +kernel
theorem dX2_firstThatCanNotBe_49 : decode cX2_firstThatCanNotBe 49 = .ok (.lload 5, 2) := by decide +kernel
theorem dX2_firstThatCanNotBe_51 : decode cX2_firstThatCanNotBe 51 = .ok (.lconst 0, 1) := by decide +kernel
theorem dX2_firstThatCanNotBe_52 : decode cX2_firstThatCanNotBe 52 = .ok (.lcmp, 1) := by decide +kernel
theorem dX2_firstThatCanNotBe_53 : decode cX2_firstThatCanNotBe 53 = .ok (.ifCond .eq 6, 3) := by decide +kernel
theorem dX2_firstThatCanNotBe_56 : decode cX2_firstThatCanNotBe 56 = .ok (.bipush (-2), 2) := by decide +kernel
theorem dX2_firstThatCanNotBe_58 : decode cX2_firstThatCanNotBe 58 = .ok (.ireturn, 1) := by decide +kernel
theorem dX2_firstThatCanNotBe_59 : decode cX2_firstThatCanNotBe 59 = .ok (.aload_n 0, 1) := by decide +kernel
theorem dX2_firstThatCanNotBe_60 : decode cX2_firstThatCanNotBe 60 = .ok (.getfield 37, 3) := by decide +kernel
theorem dX2_firstThatCanNotBe_63 : decode cX2_firstThatCanNotBe 63 = .ok (.aload_n 0, 1) := by decide +kernel
theorem dX2_firstThatCanNotBe_64 : decode cX2_firstThatCanNotBe 64 = .ok (.getfield 28, 3) := by decide +kernel
theorem dX2_firstThatCanNotBe_67 : decode cX2_firstThatCanNotBe 67 = .ok (.invokevirtual 40, 3) := by decide +kernel
theorem dX2_firstThatCanNotBe_70 : decode cX2_firstThatCanNotBe 70 = .ok (.iconst 0, 1) := by decide +kernel
theorem dX2_firstThatCanNotBe_71 : decode cX2_firstThatCanNotBe 71 = .ok (.istore 7, 2) := by decide +kernel
theorem dX2_firstThatCanNotBe_73 : decode cX2_firstThatCanNotBe 73 = .ok (.iload 7, 2) := by decide +kernel
theorem dX2_firstThatCanNotBe_75 : decode cX2_firstThatCanNotBe 75 = .ok (.iload 4, 2) := by decide +kernel
theorem dX2_firstThatCanNotBe_77 : decode cX2_firstThatCanNotBe 77 = .ok (.if_icmp .ge 26, 3) := by decide +kernel
theorem dX2_firstThatCanNotBe_80 : decode cX2_firstThatCanNotBe 80 = .ok (.aload_n 0, 1) := by decide +kernel
theorem dX2_firstThatCanNotBe_81 : decode cX2_firstThatCanNotBe 81 = .ok (.aload_n 0, 1) := by decide +kernel
theorem dX2_firstThatCanNotBe_82 : decode cX2_firstThatCanNotBe 82 = .ok (.getfield 9, 3) := by decide +kernel
theorem dX2_firstThatCanNotBe_85 : decode cX2_firstThatCanNotBe 85 = .ok (.iload 7, 2) := by decide +kernel
theorem dX2_firstThatCanNotBe_87 : decode cX2_firstThatCanNotBe 87 = .ok (.iaload, 1) := by decide +kernel
theorem dX2_firstThatCanNotBe_88 : decode cX2_firstThatCanNotBe 88 = .ok (.invokevirtual 108, 3) := by decide +kernel
theorem dX2_firstThatCanNotBe_91 : decode cX2_firstThatCanNotBe 91 = .ok (.ifCond .ne 6, 3) := by decide +kernel
theorem dX2_firstThatCanNotBe_94 : decode cX2_firstThatCanNotBe 94 = .ok (.iload 7, 2) := by decide +kernel
theorem dX2_firstThatCanNotBe_96 : decode cX2_firstThatCanNotBe 96 = .ok (.ireturn, 1) := by decide +kernel
theorem dX2_firstThatCanNotBe_97 : decode cX2_firstThatCanNotBe 97 = .ok (.iinc 7 1, 3) := by decide +kernel
theorem dX2_firstThatCanNotBe_100 : decode cX2_firstThatCanNotBe 100 = .ok (.goto (-27), 3) := by decide +kernel
theorem dX2_firstThatCanNotBe_103 : decode cX2_firstThatCanNotBe 103 = .ok (.bipush (-9), 2) := by decide +kernel
theorem dX2_firstThatCanNotBe_105 : decode cX2_firstThatCanNotBe 105 = .ok (.ireturn, 1) := by decide +kernel
theorem dX2_doIfCan_0 : decode cX2_doIfCan 0 = .ok (.iload_n 1, 1) := by decide +kernel
theorem dX2_doIfCan_1 : decode cX2_doIfCan 1 = .ok (.bipush 100, 2) := by decide +kernel
theorem dX2_doIfCan_3 : decode cX2_doIfCan 3 = .ok (.idiv, 1) := by decide +kernel
theorem dX2_doIfCan_4 : decode cX2_doIfCan 4 = .ok (.bipush 10, 2) := by decide +kernel
theorem dX2_doIfCan_6 : decode cX2_doIfCan 6 = .ok (.irem, 1) := by decide +kernel
theorem dX2_doIfCan_7 : decode cX2_doIfCan 7 = .ok (.istore_n 2, 1) := by decide +kernel
theorem dX2_doIfCan_8 : decode cX2_doIfCan 8 = .ok (.iload_n 1, 1) := by decide +kernel
theorem dX2_doIfCan_9 : decode cX2_doIfCan 9 = .ok (.bipush 10, 2) := by decide +kernel
theorem dX2_doIfCan_11 : decode cX2_doIfCan 11 = .ok (.idiv, 1) := by decide +kernel
theorem dX2_doIfCan_12 : decode cX2_doIfCan 12 = .ok (.bipush 10, 2) := by decide +kernel
theorem dX2_doIfCan_14 : decode cX2_doIfCan 14 = .ok (.irem, 1) := by decide +kernel
theorem dX2_doIfCan_15 : decode cX2_doIfCan 15 = .ok (.istore_n 3, 1) := by decide +kernel
theorem dX2_doIfCan_16 : decode cX2_doIfCan 16 = .ok (.iload_n 1, 1) := by decide +kernel
theorem dX2_doIfCan_17 : decode cX2_doIfCan 17 = .ok (.bipush 10, 2) := by decide +kernel
theorem dX2_doIfCan_19 : decode cX2_doIfCan 19 = .ok (.irem, 1) := by decide +kernel
theorem dX2_doIfCan_20 : decode cX2_doIfCan 20 = .ok (.istore 4, 2) := by decide +kernel
theorem dX2_doIfCan_22 : decode cX2_doIfCan 22 = .ok (.iload_n 1, 1) := by decide +kernel
theorem dX2_doIfCan_23 : decode cX2_doIfCan 23 = .ok (.sipush 1000, 3) := by decide +kernel
theorem dX2_doIfCan_26 : decode cX2_doIfCan 26 = .ok (.idiv, 1) := by decide +kernel
theorem dX2_doIfCan_27 : decode cX2_doIfCan 27 = .ok (.tableswitch 145 0 4 #[33, 55, 65, 91, 111], 33) := by decide +kernel
theorem dX2_doIfCan_60 : decode cX2_doIfCan 60 = .ok (.iload_n 1, 1) := by decide +kernel
theorem dX2_doIfCan_61 : decode cX2_doIfCan 61 = .ok (.ifCond .ne 11, 3) := by decide +kernel
theorem dX2_doIfCan_64 : decode cX2_doIfCan 64 = .ok (.aload_n 0, 1) := by decide +kernel
theorem dX2_doIfCan_65 : decode cX2_doIfCan 65 = .ok (.getfield 37, 3) := by decide +kernel
theorem dX2_doIfCan_68 : decode cX2_doIfCan 68 = .ok (.invokevirtual 44, 3) := by decide +kernel
theorem dX2_doIfCan_71 : decode cX2_doIfCan 71 = .ok (.pop, 1) := by decide +kernel
theorem dX2_doIfCan_72 : decode cX2_doIfCan 72 = .ok (.iload_n 1, 1) := by decide +kernel
theorem dX2_doIfCan_73 : decode cX2_doIfCan 73 = .ok (.ifCond .ne 7, 3) := by decide +kernel
theorem dX2_doIfCan_76 : decode cX2_doIfCan 76 = .ok (.iconst 1, 1) := by decide +kernel
theorem dX2_doIfCan_77 : decode cX2_doIfCan 77 = .ok (.goto 4, 3) := by decide +kernel
theorem dX2_doIfCan_80 : decode cX2_doIfCan 80 = .ok (.iconst 0, 1) := by decide +kernel
theorem dX2_doIfCan_81 : decode cX2_doIfCan 81 = .ok (.ireturn, 1) := by decide +kernel
theorem dX2_doIfCan_82 : decode cX2_doIfCan 82 = .ok (.aload_n 0, 1) := by decide +kernel
theorem dX2_doIfCan_83 : decode cX2_doIfCan 83 = .ok (.iload_n 2, 1) := by decide +kernel
theorem dX2_doIfCan_84 : decode cX2_doIfCan 84 = .ok (.iload_n 1, 1) := by decide +kernel
theorem dX2_doIfCan_85 : decode cX2_doIfCan 85 = .ok (.bipush 100, 2) := by decide +kernel
theorem dX2_doIfCan_87 : decode cX2_doIfCan 87 = .ok (.irem, 1) := by decide +kernel
theorem dX2_doIfCan_88 : decode cX2_doIfCan 88 = .ok (.invokevirtual 111, 3) := by decide +kernel
theorem dX2_doIfCan_91 : decode cX2_doIfCan 91 = .ok (.ireturn, 1) := by decide +kernel
theorem dX2_doIfCan_92 : decode cX2_doIfCan 92 = .ok (.iload_n 2, 1) := by decide +kernel
theorem dX2_doIfCan_93 : decode cX2_doIfCan 93 = .ok (.ifCond .ne 12, 3) := by decide +kernel
theorem dX2_doIfCan_96 : decode cX2_doIfCan 96 = .ok (.iload_n 3, 1) := by decide +kernel
theorem dX2_doIfCan_97 : decode cX2_doIfCan 97 = .ok (.ifCond .ne 8, 3) := by decide +kernel
theorem dX2_doIfCan_100 : decode cX2_doIfCan 100 = .ok (.iload 4, 2) := by decide +kernel
theorem dX2_doIfCan_102 : decode cX2_doIfCan 102 = .ok (.ifCond .ne 5, 3) := by decide +kernel
theorem dX2_doIfCan_105 : decode cX2_doIfCan 105 = .ok (.iconst 0, 1) := by decide +kernel
theorem dX2_doIfCan_106 : decode cX2_doIfCan 106 = .ok (.ireturn, 1) := by decide +kernel
theorem dX2_doIfCan_107 : decode cX2_doIfCan 107 = .ok (.aload_n 0, 1) := by decide +kernel
theorem dX2_doIfCan_108 : decode cX2_doIfCan 108 = .ok (.getfield 37, 3) := by decide +kernel
theorem dX2_doIfCan_111 : decode cX2_doIfCan 111 = .ok (.iload 4, 2) := by decide +kernel
theorem dX2_doIfCan_113 : decode cX2_doIfCan 113 = .ok (.invokevirtual 114, 3) := by decide +kernel
theorem dX2_doIfCan_116 : decode cX2_doIfCan 116 = .ok (.iconst 1, 1) := by decide +kernel
theorem dX2_doIfCan_117 : decode cX2_doIfCan 117 = .ok (.ireturn, 1) := by decide +kernel
theorem dX2_doIfCan_118 : decode cX2_doIfCan 118 = .ok (.iload_n 3, 1) := by decide +kernel
theorem dX2_doIfCan_119 : decode cX2_doIfCan 119 = .ok (.ifCond .ne 17, 3) := by decide +kernel
theorem dX2_doIfCan_122 : decode cX2_doIfCan 122 = .ok (.aload_n 0, 1) := by decide +kernel
theorem dX2_doIfCan_123 : decode cX2_doIfCan 123 = .ok (.iload_n 2, 1) := by decide +kernel
theorem dX2_doIfCan_124 : decode cX2_doIfCan 124 = .ok (.iload 4, 2) := by decide +kernel
theorem dX2_doIfCan_126 : decode cX2_doIfCan 126 = .ok (.invokevirtual 117, 3) := by decide +kernel
theorem dX2_doIfCan_129 : decode cX2_doIfCan 129 = .ok (.ifCond .eq 7, 3) := by decide +kernel
theorem dX2_doIfCan_132 : decode cX2_doIfCan 132 = .ok (.iconst 1, 1) := by decide +kernel
theorem dX2_doIfCan_133 : decode cX2_doIfCan 133 = .ok (.goto 4, 3) := by decide +kernel
theorem dX2_doIfCan_136 : decode cX2_doIfCan 136 = .ok (.iconst 0, 1) := by decide +kernel
theorem dX2_doIfCan_137 : decode cX2_doIfCan 137 = .ok (.ireturn, 1) := by decide +kernel
theorem dX2_doIfCan_138 : decode cX2_doIfCan 138 = .ok (.iload_n 3, 1) := by decide +kernel
theorem dX2_doIfCan_139 : decode cX2_doIfCan 139 = .ok (.ifCond .ne 31, 3) := by decide +kernel
theorem dX2_doIfCan_142 : decode cX2_doIfCan 142 = .ok (.aload_n 0, 1) := by decide +kernel
theorem dX2_doIfCan_143 : decode cX2_doIfCan 143 = .ok (.getfield 24, 3) := by decide +kernel
theorem dX2_doIfCan_146 : decode cX2_doIfCan 146 = .ok (.iload_n 2, 1) := by decide +kernel
theorem dX2_doIfCan_147 : decode cX2_doIfCan 147 = .ok (.invokevirtual 120, 3) := by decide +kernel
theorem dX2_doIfCan_150 : decode cX2_doIfCan 150 = .ok (.ifCond .eq 20, 3) := by decide +kernel
theorem dX2_doIfCan_153 : decode cX2_doIfCan 153 = .ok (.aload_n 0, 1) := by decide +kernel
theorem dX2_doIfCan_154 : decode cX2_doIfCan 154 = .ok (.getfield 37, 3) := by decide +kernel
theorem dX2_doIfCan_157 : decode cX2_doIfCan 157 = .ok (.iload_n 2, 1) := by decide +kernel
theorem dX2_doIfCan_158 : decode cX2_doIfCan 158 = .ok (.invokevirtual 56, 3) := by decide +kernel
theorem dX2_doIfCan_161 : decode cX2_doIfCan 161 = .ok (.iload 4, 2) := by decide +kernel
theorem dX2_doIfCan_163 : decode cX2_doIfCan 163 = .ok (.if_icmp .ne 7, 3) := by decide +kernel
theorem dX2_doIfCan_166 : decode cX2_doIfCan 166 = .ok (.iconst 1, 1) := by decide +kernel
theorem dX2_doIfCan_167 : decode cX2_doIfCan 167 = .ok (.goto 4, 3) := by decide +kernel
theorem dX2_doIfCan_170 : decode cX2_doIfCan 170 = .ok (.iconst 0, 1) := by decide +kernel
theorem dX2_doIfCan_171 : decode cX2_doIfCan 171 = .ok (.ireturn, 1) := by decide +kernel
theorem dX2_doIfCan_172 : decode cX2_doIfCan 172 = .ok (.iconst 0, 1) := by decide +kernel
theorem dX2_doIfCan_173 : decode cX2_doIfCan 173 = .ok (.ireturn, 1) := by decide +kernel
theorem dX2_putIfCan_0 : decode cX2_putIfCan 0 = .ok (.aload_n 0, 1) := by decide +kernel
theorem dX2_putIfCan_1 : decode cX2_putIfCan 1 = .ok (.getfield 37, 3) := by decide +kernel
theorem dX2_putIfCan_4 : decode cX2_putIfCan 4 = .ok (.iload_n 1, 1) := by decide +kernel
theorem dX2_putIfCan_5 : decode cX2_putIfCan 5 = .ok (.iload_n 2, 1) := by decide +kernel
theorem dX2_putIfCan_6 : decode cX2_putIfCan 6 = .ok (.invokevirtual 77, 3) := by decide +kernel
theorem dX2_putIfCan_9 : decode cX2_putIfCan 9 = .ok (.istore_n 3, 1) := by decide +kernel
theorem dX2_putIfCan_10 : decode cX2_putIfCan 10 = .ok (.iload_n 3, 1) := by decide +kernel
theorem dX2_putIfCan_11 : decode cX2_putIfCan 11 = .ok (.ifCond .eq 12, 3) := by decide +kernel
theorem dX2_putIfCan_14 : decode cX2_putIfCan 14 = .ok (.aload_n 0, 1) := by decide +kernel
theorem dX2_putIfCan_15 : decode cX2_putIfCan 15 = .ok (.getfield 37, 3) := by decide +kernel
theorem dX2_putIfCan_18 : decode cX2_putIfCan 18 = .ok (.iload_n 1, 1) := by decide +kernel
theorem dX2_putIfCan_19 : decode cX2_putIfCan 19 = .ok (.iload_n 2, 1) := by decide +kernel
theorem dX2_putIfCan_20 : decode cX2_putIfCan 20 = .ok (.invokevirtual 52, 3) := by decide +kernel
theorem dX2_putIfCan_23 : decode cX2_putIfCan 23 = .ok (.iload_n 3, 1) := by decide +kernel
theorem dX2_putIfCan_24 : decode cX2_putIfCan 24 = .ok (.ireturn, 1) := by decide +kernel
theorem dX2_sendIfCan_0 : decode cX2_sendIfCan 0 = .ok (.aload_n 0, 1) := by decide +kernel
theorem dX2_sendIfCan_1 : decode cX2_sendIfCan 1 = .ok (.getfield 37, 3) := by decide +kernel
theorem dX2_sendIfCan_4 : decode cX2_sendIfCan 4 = .ok (.iload_n 1, 1) := by decide +kernel
theorem dX2_sendIfCan_5 : decode cX2_sendIfCan 5 = .ok (.iload_n 2, 1) := by decide +kernel
theorem dX2_sendIfCan_6 : decode cX2_sendIfCan 6 = .ok (.invokevirtual 123, 3) := by decide +kernel
theorem dX2_sendIfCan_9 : decode cX2_sendIfCan 9 = .ok (.istore_n 3, 1) := by decide +kernel
theorem dX2_sendIfCan_10 : decode cX2_sendIfCan 10 = .ok (.iload_n 3, 1) := by decide +kernel
theorem dX2_sendIfCan_11 : decode cX2_sendIfCan 11 = .ok (.ifCond .eq 12, 3) := by decide +kernel
theorem dX2_sendIfCan_14 : decode cX2_sendIfCan 14 = .ok (.aload_n 0, 1) := by decide +kernel
theorem dX2_sendIfCan_15 : decode cX2_sendIfCan 15 = .ok (.getfield 37, 3) := by decide +kernel
theorem dX2_sendIfCan_18 : decode cX2_sendIfCan 18 = .ok (.iload_n 1, 1) := by decide +kernel
theorem dX2_sendIfCan_19 : decode cX2_sendIfCan 19 = .ok (.iload_n 2, 1) := by decide +kernel
theorem dX2_sendIfCan_20 : decode cX2_sendIfCan 20 = .ok (.invokevirtual 71, 3) := by decide +kernel
theorem dX2_sendIfCan_23 : decode cX2_sendIfCan 23 = .ok (.iload_n 3, 1) := by decide +kernel
theorem dX2_sendIfCan_24 : decode cX2_sendIfCan 24 = .ok (.ireturn, 1) := by decide +kernel
theorem dX2_shareOf_0 : decode cX2_shareOf 0 = .ok (.aload_n 0, 1) := by decide +kernel
theorem dX2_shareOf_1 : decode cX2_shareOf 1 = .ok (.invokevirtual 126, 3) := by decide +kernel
theorem dX2_shareOf_4 : decode cX2_shareOf 4 = .ok (.iconst 0, 1) := by decide +kernel
theorem dX2_shareOf_5 : decode cX2_shareOf 5 = .ok (.istore_n 3, 1) := by decide +kernel
theorem dX2_shareOf_6 : decode cX2_shareOf 6 = .ok (.iconst 0, 1) := by decide +kernel
theorem dX2_shareOf_7 : decode cX2_shareOf 7 = .ok (.istore 4, 2) := by decide +kernel
theorem dX2_shareOf_9 : decode cX2_shareOf 9 = .ok (.iconst 0, 1) := by decide +kernel
theorem dX2_shareOf_10 : decode cX2_shareOf 10 = .ok (.istore 5, 2) := by decide +kernel
theorem dX2_shareOf_12 : decode cX2_shareOf 12 = .ok (.iload 5, 2) := by decide +kernel
theorem dX2_shareOf_14 : decode cX2_shareOf 14 = .ok (.iconst 1, 1) := by decide +kernel
theorem dX2_shareOf_15 : decode cX2_shareOf 15 = .ok (.aload_n 0, 1) := by decide +kernel
theorem dX2_shareOf_16 : decode cX2_shareOf 16 = .ok (.getfield 24, 3) := by decide +kernel
theorem dX2_shareOf_19 : decode cX2_shareOf 19 = .ok (.getfield 59, 3) := by decide +kernel
theorem dX2_shareOf_22 : decode cX2_shareOf 22 = .ok (.ishl, 1) := by decide +kernel
theorem dX2_shareOf_23 : decode cX2_shareOf 23 = .ok (.if_icmp .ge 80, 3) := by decide +kernel
theorem dX2_shareOf_26 : decode cX2_shareOf 26 = .ok (.iload 5, 2) := by decide +kernel
theorem dX2_shareOf_28 : decode cX2_shareOf 28 = .ok (.iload_n 1, 1) := by decide +kernel
theorem dX2_shareOf_29 : decode cX2_shareOf 29 = .ok (.ishr, 1) := by decide +kernel
theorem dX2_shareOf_30 : decode cX2_shareOf 30 = .ok (.iconst 1, 1) := by decide +kernel
theorem dX2_shareOf_31 : decode cX2_shareOf 31 = .ok (.iand, 1) := by decide +kernel
theorem dX2_shareOf_32 : decode cX2_shareOf 32 = .ok (.ifCond .ne 65, 3) := by decide +kernel
theorem dX2_shareOf_35 : decode cX2_shareOf 35 = .ok (.iload 5, 2) := by decide +kernel
theorem dX2_shareOf_37 : decode cX2_shareOf 37 = .ok (.invokestatic 85, 3) := by decide +kernel
theorem dX2_shareOf_40 : decode cX2_shareOf 40 = .ok (.istore 6, 2) := by decide +kernel
theorem dX2_shareOf_42 : decode cX2_shareOf 42 = .ok (.iload 6, 2) := by decide +kernel
theorem dX2_shareOf_44 : decode cX2_shareOf 44 = .ok (.invokestatic 129, 3) := by decide +kernel
theorem dX2_shareOf_47 : decode cX2_shareOf 47 = .ok (.aload_n 0, 1) := by decide +kernel
theorem dX2_shareOf_48 : decode cX2_shareOf 48 = .ok (.getfield 24, 3) := by decide +kernel
theorem dX2_shareOf_51 : decode cX2_shareOf 51 = .ok (.getfield 59, 3) := by decide +kernel
theorem dX2_shareOf_54 : decode cX2_shareOf 54 = .ok (.iconst 1, 1) := by decide +kernel
theorem dX2_shareOf_55 : decode cX2_shareOf 55 = .ok (.isub, 1) := by decide +kernel
theorem dX2_shareOf_56 : decode cX2_shareOf 56 = .ok (.iload 6, 2) := by decide +kernel
theorem dX2_shareOf_58 : decode cX2_shareOf 58 = .ok (.isub, 1) := by decide +kernel
theorem dX2_shareOf_59 : decode cX2_shareOf 59 = .ok (.invokestatic 129, 3) := by decide +kernel
theorem dX2_shareOf_62 : decode cX2_shareOf 62 = .ok (.imul, 1) := by decide +kernel
theorem dX2_shareOf_63 : decode cX2_shareOf 63 = .ok (.istore 7, 2) := by decide +kernel
theorem dX2_shareOf_65 : decode cX2_shareOf 65 = .ok (.iload_n 3, 1) := by decide +kernel
theorem dX2_shareOf_66 : decode cX2_shareOf 66 = .ok (.iload 7, 2) := by decide +kernel
theorem dX2_shareOf_68 : decode cX2_shareOf 68 = .ok (.aload_n 0, 1) := by decide +kernel
theorem dX2_shareOf_69 : decode cX2_shareOf 69 = .ok (.getfield 15, 3) := by decide +kernel
theorem dX2_shareOf_72 : decode cX2_shareOf 72 = .ok (.iload 5, 2) := by decide +kernel
theorem dX2_shareOf_74 : decode cX2_shareOf 74 = .ok (.iaload, 1) := by decide +kernel
theorem dX2_shareOf_75 : decode cX2_shareOf 75 = .ok (.aload_n 0, 1) := by decide +kernel
theorem dX2_shareOf_76 : decode cX2_shareOf 76 = .ok (.getfield 15, 3) := by decide +kernel
theorem dX2_shareOf_79 : decode cX2_shareOf 79 = .ok (.iload 5, 2) := by decide +kernel
theorem dX2_shareOf_81 : decode cX2_shareOf 81 = .ok (.iconst 1, 1) := by decide +kernel
theorem dX2_shareOf_82 : decode cX2_shareOf 82 = .ok (.iload_n 1, 1) := by decide +kernel
theorem dX2_shareOf_83 : decode cX2_shareOf 83 = .ok (.ishl, 1) := by decide +kernel
theorem dX2_shareOf_84 : decode cX2_shareOf 84 = .ok (.ior, 1) := by decide +kernel
theorem dX2_shareOf_85 : decode cX2_shareOf 85 = .ok (.iaload, 1) := by decide +kernel
theorem dX2_shareOf_86 : decode cX2_shareOf 86 = .ok (.isub, 1) := by decide +kernel
theorem dX2_shareOf_87 : decode cX2_shareOf 87 = .ok (.imul, 1) := by decide +kernel
theorem dX2_shareOf_88 : decode cX2_shareOf 88 = .ok (.iadd, 1) := by decide +kernel
theorem dX2_shareOf_89 : decode cX2_shareOf 89 = .ok (.istore_n 3, 1) := by decide +kernel
theorem dX2_shareOf_90 : decode cX2_shareOf 90 = .ok (.iload 4, 2) := by decide +kernel
theorem dX2_shareOf_92 : decode cX2_shareOf 92 = .ok (.iload 7, 2) := by decide +kernel
theorem dX2_shareOf_94 : decode cX2_shareOf 94 = .ok (.iadd, 1) := by decide +kernel
theorem dX2_shareOf_95 : decode cX2_shareOf 95 = .ok (.istore 4, 2) := by decide +kernel
theorem dX2_shareOf_97 : decode cX2_shareOf 97 = .ok (.iinc 5 1, 3) := by decide +kernel
theorem dX2_shareOf_100 : decode cX2_shareOf 100 = .ok (.goto (-88), 3) := by decide +kernel
theorem dX2_shareOf_103 : decode cX2_shareOf 103 = .ok (.iload_n 3, 1) := by decide +kernel
theorem dX2_shareOf_104 : decode cX2_shareOf 104 = .ok (.iconst 1, 1) := by decide +kernel
theorem dX2_shareOf_105 : decode cX2_shareOf 105 = .ok (.iload 4, 2) := by decide +kernel
theorem dX2_shareOf_107 : decode cX2_shareOf 107 = .ok (.invokestatic 132, 3) := by decide +kernel
theorem dX2_shareOf_110 : decode cX2_shareOf 110 = .ok (.iload_n 2, 1) := by decide +kernel
theorem dX2_shareOf_111 : decode cX2_shareOf 111 = .ok (.invokestatic 135, 3) := by decide +kernel
theorem dX2_shareOf_114 : decode cX2_shareOf 114 = .ok (.ireturn, 1) := by decide +kernel
theorem dX2_fillLostWith_0 : decode cX2_fillLostWith 0 = .ok (.iconst 0, 1) := by decide +kernel
theorem dX2_fillLostWith_1 : decode cX2_fillLostWith 1 = .ok (.istore_n 1, 1) := by decide +kernel
theorem dX2_fillLostWith_2 : decode cX2_fillLostWith 2 = .ok (.iload_n 1, 1) := by decide +kernel
theorem dX2_fillLostWith_3 : decode cX2_fillLostWith 3 = .ok (.iconst 1, 1) := by decide +kernel
theorem dX2_fillLostWith_4 : decode cX2_fillLostWith 4 = .ok (.aload_n 0, 1) := by decide +kernel
theorem dX2_fillLostWith_5 : decode cX2_fillLostWith 5 = .ok (.getfield 24, 3) := by decide +kernel
theorem dX2_fillLostWith_8 : decode cX2_fillLostWith 8 = .ok (.getfield 59, 3) := by decide +kernel
theorem dX2_fillLostWith_11 : decode cX2_fillLostWith 11 = .ok (.ishl, 1) := by decide +kernel
theorem dX2_fillLostWith_12 : decode cX2_fillLostWith 12 = .ok (.if_icmp .ge 91, 3) := by decide +kernel
theorem dX2_fillLostWith_15 : decode cX2_fillLostWith 15 = .ok (.aload_n 0, 1) := by decide +kernel
theorem dX2_fillLostWith_16 : decode cX2_fillLostWith 16 = .ok (.getfield 37, 3) := by decide +kernel
theorem dX2_fillLostWith_19 : decode cX2_fillLostWith 19 = .ok (.aload_n 0, 1) := by decide +kernel
theorem dX2_fillLostWith_20 : decode cX2_fillLostWith 20 = .ok (.getfield 28, 3) := by decide +kernel
theorem dX2_fillLostWith_23 : decode cX2_fillLostWith 23 = .ok (.invokevirtual 40, 3) := by decide +kernel
theorem dX2_fillLostWith_26 : decode cX2_fillLostWith 26 = .ok (.iconst 0, 1) := by decide +kernel
theorem dX2_fillLostWith_27 : decode cX2_fillLostWith 27 = .ok (.istore_n 2, 1) := by decide +kernel
theorem dX2_fillLostWith_28 : decode cX2_fillLostWith 28 = .ok (.iload_n 2, 1) := by decide +kernel
theorem dX2_fillLostWith_29 : decode cX2_fillLostWith 29 = .ok (.aload_n 0, 1) := by decide +kernel
theorem dX2_fillLostWith_30 : decode cX2_fillLostWith 30 = .ok (.getfield 24, 3) := by decide +kernel
theorem dX2_fillLostWith_33 : decode cX2_fillLostWith 33 = .ok (.getfield 59, 3) := by decide +kernel
theorem dX2_fillLostWith_36 : decode cX2_fillLostWith 36 = .ok (.if_icmp .ge 26, 3) := by decide +kernel
theorem dX2_fillLostWith_39 : decode cX2_fillLostWith 39 = .ok (.iload_n 1, 1) := by decide +kernel
theorem dX2_fillLostWith_40 : decode cX2_fillLostWith 40 = .ok (.iload_n 2, 1) := by decide +kernel
theorem dX2_fillLostWith_41 : decode cX2_fillLostWith 41 = .ok (.ishr, 1) := by decide +kernel
theorem dX2_fillLostWith_42 : decode cX2_fillLostWith 42 = .ok (.iconst 1, 1) := by decide +kernel
theorem dX2_fillLostWith_43 : decode cX2_fillLostWith 43 = .ok (.iand, 1) := by decide +kernel
theorem dX2_fillLostWith_44 : decode cX2_fillLostWith 44 = .ok (.ifCond .ne 12, 3) := by decide +kernel
theorem dX2_fillLostWith_47 : decode cX2_fillLostWith 47 = .ok (.aload_n 0, 1) := by decide +kernel
theorem dX2_fillLostWith_48 : decode cX2_fillLostWith 48 = .ok (.getfield 37, 3) := by decide +kernel
theorem dX2_fillLostWith_51 : decode cX2_fillLostWith 51 = .ok (.iload_n 2, 1) := by decide +kernel
theorem dX2_fillLostWith_52 : decode cX2_fillLostWith 52 = .ok (.iconst 3, 1) := by decide +kernel
theorem dX2_fillLostWith_53 : decode cX2_fillLostWith 53 = .ok (.invokevirtual 71, 3) := by decide +kernel
theorem dX2_fillLostWith_56 : decode cX2_fillLostWith 56 = .ok (.iinc 2 1, 3) := by decide +kernel
theorem dX2_fillLostWith_59 : decode cX2_fillLostWith 59 = .ok (.goto (-31), 3) := by decide +kernel
theorem dX2_fillLostWith_62 : decode cX2_fillLostWith 62 = .ok (.iconst 0, 1) := by decide +kernel
theorem dX2_fillLostWith_63 : decode cX2_fillLostWith 63 = .ok (.istore_n 2, 1) := by decide +kernel
theorem dX2_fillLostWith_64 : decode cX2_fillLostWith 64 = .ok (.iload_n 2, 1) := by decide +kernel
theorem dX2_fillLostWith_65 : decode cX2_fillLostWith 65 = .ok (.bipush 9, 2) := by decide +kernel
theorem dX2_fillLostWith_67 : decode cX2_fillLostWith 67 = .ok (.if_icmp .ge 17, 3) := by decide +kernel
theorem dX2_fillLostWith_70 : decode cX2_fillLostWith 70 = .ok (.aload_n 0, 1) := by decide +kernel
theorem dX2_fillLostWith_71 : decode cX2_fillLostWith 71 = .ok (.getfield 37, 3) := by decide +kernel
theorem dX2_fillLostWith_74 : decode cX2_fillLostWith 74 = .ok (.invokevirtual 44, 3) := by decide +kernel
theorem dX2_fillLostWith_77 : decode cX2_fillLostWith 77 = .ok (.pop, 1) := by decide +kernel
theorem dX2_fillLostWith_78 : decode cX2_fillLostWith 78 = .ok (.iinc 2 1, 3) := by decide +kernel
theorem dX2_fillLostWith_81 : decode cX2_fillLostWith 81 = .ok (.goto (-17), 3) := by decide +kernel
theorem dX2_fillLostWith_84 : decode cX2_fillLostWith 84 = .ok (.aload_n 0, 1) := by decide +kernel
theorem dX2_fillLostWith_85 : decode cX2_fillLostWith 85 = .ok (.getfield 15, 3) := by decide +kernel
theorem dX2_fillLostWith_88 : decode cX2_fillLostWith 88 = .ok (.iload_n 1, 1) := by decide +kernel
theorem dX2_fillLostWith_89 : decode cX2_fillLostWith 89 = .ok (.aload_n 0, 1) := by decide +kernel
theorem dX2_fillLostWith_90 : decode cX2_fillLostWith 90 = .ok (.getfield 37, 3) := by decide +kernel
theorem dX2_fillLostWith_93 : decode cX2_fillLostWith 93 = .ok (.invokevirtual 68, 3) := by decide +kernel
theorem dX2_fillLostWith_96 : decode cX2_fillLostWith 96 = .ok (.iastore, 1) := by decide +kernel
theorem dX2_fillLostWith_97 : decode cX2_fillLostWith 97 = .ok (.iinc 1 1, 3) := by decide +kernel
theorem dX2_fillLostWith_100 : decode cX2_fillLostWith 100 = .ok (.goto (-98), 3) := by decide +kernel
theorem dX2_fillLostWith_103 : decode cX2_fillLostWith 103 = .ok (.return_, 1) := by decide +kernel
theorem dX2_factorial_0 : decode cX2_factorial 0 = .ok (.iconst 1, 1) := by decide +kernel
theorem dX2_factorial_1 : decode cX2_factorial 1 = .ok (.istore_n 1, 1) := by decide +kernel
theorem dX2_factorial_2 : decode cX2_factorial 2 = .ok (.iconst 2, 1) := by decide +kernel
theorem dX2_factorial_3 : decode cX2_factorial 3 = .ok (.istore_n 2, 1) := by decide +kernel
theorem dX2_factorial_4 : decode cX2_factorial 4 = .ok (.iload_n 2, 1) := by decide +kernel
theorem dX2_factorial_5 : decode cX2_factorial 5 = .ok (.iload_n 0, 1) := by decide +kernel
theorem dX2_factorial_6 : decode cX2_factorial 6 = .ok (.if_icmp .gt 13, 3) := by decide +kernel
theorem dX2_factorial_9 : decode cX2_factorial 9 = .ok (.iload_n 1, 1) := by decide +kernel
theorem dX2_factorial_10 : decode cX2_factorial 10 = .ok (.iload_n 2, 1) := by decide +kernel
theorem dX2_factorial_11 : decode cX2_factorial 11 = .ok (.imul, 1) := by decide +kernel
theorem dX2_factorial_12 : decode cX2_factorial 12 = .ok (.istore_n 1, 1) := by decide +kernel
theorem dX2_factorial_13 : decode cX2_factorial 13 = .ok (.iinc 2 1, 3) := by decide +kernel
theorem dX2_factorial_16 : decode cX2_factorial 16 = .ok (.goto (-12), 3) := by decide +kernel
theorem dX2_factorial_19 : decode cX2_factorial 19 = .ok (.iload_n 1, 1) := by decide +kernel
theorem dX2_factorial_20 : decode cX2_factorial 20 = .ok (.ireturn, 1) := by decide +kernel
theorem dX2_restsOf_0 : decode cX2_restsOf 0 = .ok (.aload_n 0, 1) := by decide +kernel
theorem dX2_restsOf_1 : decode cX2_restsOf 1 = .ok (.iload_n 1, 1) := by decide +kernel
theorem dX2_restsOf_2 : decode cX2_restsOf 2 = .ok (.iload_n 2, 1) := by decide +kernel
theorem dX2_restsOf_3 : decode cX2_restsOf 3 = .ok (.invokevirtual 139, 3) := by decide +kernel
theorem dX2_restsOf_6 : decode cX2_restsOf 6 = .ok (.iconst 0, 1) := by decide +kernel
theorem dX2_restsOf_7 : decode cX2_restsOf 7 = .ok (.istore 4, 2) := by decide +kernel
theorem dX2_restsOf_9 : decode cX2_restsOf 9 = .ok (.bipush (-9), 2) := by decide +kernel
theorem dX2_restsOf_11 : decode cX2_restsOf 11 = .ok (.istore 5, 2) := by decide +kernel
theorem dX2_restsOf_13 : decode cX2_restsOf 13 = .ok (.iconst 0, 1) := by decide +kernel
theorem dX2_restsOf_14 : decode cX2_restsOf 14 = .ok (.istore 6, 2) := by decide +kernel
theorem dX2_restsOf_16 : decode cX2_restsOf 16 = .ok (.iload 6, 2) := by decide +kernel
theorem dX2_restsOf_18 : decode cX2_restsOf 18 = .ok (.iconst 3, 1) := by decide +kernel
theorem dX2_restsOf_19 : decode cX2_restsOf 19 = .ok (.if_icmp .ge 53, 3) := by decide +kernel
theorem dX2_restsOf_22 : decode cX2_restsOf 22 = .ok (.iconst 0, 1) := by decide +kernel
theorem dX2_restsOf_23 : decode cX2_restsOf 23 = .ok (.istore 7, 2) := by decide +kernel
theorem dX2_restsOf_25 : decode cX2_restsOf 25 = .ok (.iload 7, 2) := by decide +kernel
theorem dX2_restsOf_27 : decode cX2_restsOf 27 = .ok (.iconst 3, 1) := by decide +kernel
theorem dX2_restsOf_28 : decode cX2_restsOf 28 = .ok (.if_icmp .ge 38, 3) := by decide +kernel
theorem dX2_restsOf_31 : decode cX2_restsOf 31 = .ok (.aload_n 0, 1) := by decide +kernel
theorem dX2_restsOf_32 : decode cX2_restsOf 32 = .ok (.iload 6, 2) := by decide +kernel
theorem dX2_restsOf_34 : decode cX2_restsOf 34 = .ok (.iload 7, 2) := by decide +kernel
theorem dX2_restsOf_36 : decode cX2_restsOf 36 = .ok (.invokevirtual 142, 3) := by decide +kernel
theorem dX2_restsOf_39 : decode cX2_restsOf 39 = .ok (.ifCond .eq 21, 3) := by decide +kernel
theorem dX2_restsOf_42 : decode cX2_restsOf 42 = .ok (.iload 4, 2) := by decide +kernel
theorem dX2_restsOf_44 : decode cX2_restsOf 44 = .ok (.ifCond .ne 13, 3) := by decide +kernel
theorem dX2_restsOf_47 : decode cX2_restsOf 47 = .ok (.bipush 10, 2) := by decide +kernel
theorem dX2_restsOf_49 : decode cX2_restsOf 49 = .ok (.iload 6, 2) := by decide +kernel
theorem dX2_restsOf_51 : decode cX2_restsOf 51 = .ok (.imul, 1) := by decide +kernel
theorem dX2_restsOf_52 : decode cX2_restsOf 52 = .ok (.iload 7, 2) := by decide +kernel
theorem dX2_restsOf_54 : decode cX2_restsOf 54 = .ok (.iadd, 1) := by decide +kernel
theorem dX2_restsOf_55 : decode cX2_restsOf 55 = .ok (.istore 5, 2) := by decide +kernel
theorem dX2_restsOf_57 : decode cX2_restsOf 57 = .ok (.iinc 4 1, 3) := by decide +kernel
theorem dX2_restsOf_60 : decode cX2_restsOf 60 = .ok (.iinc 7 1, 3) := by decide +kernel
theorem dX2_restsOf_63 : decode cX2_restsOf 63 = .ok (.goto (-38), 3) := by decide +kernel
theorem dX2_restsOf_66 : decode cX2_restsOf 66 = .ok (.iinc 6 1, 3) := by decide +kernel
theorem dX2_restsOf_69 : decode cX2_restsOf 69 = .ok (.goto (-53), 3) := by decide +kernel
theorem dX2_restsOf_72 : decode cX2_restsOf 72 = .ok (.iload_n 3, 1) := by decide +kernel
theorem dX2_restsOf_73 : decode cX2_restsOf 73 = .ok (.ifCond .eq 8, 3) := by decide +kernel
theorem dX2_restsOf_76 : decode cX2_restsOf 76 = .ok (.iload 5, 2) := by decide +kernel
theorem dX2_restsOf_78 : decode cX2_restsOf 78 = .ok (.goto 5, 3) := by decide +kernel
theorem dX2_restsOf_81 : decode cX2_restsOf 81 = .ok (.iload 4, 2) := by decide +kernel
theorem dX2_restsOf_83 : decode cX2_restsOf 83 = .ok (.ireturn, 1) := by decide +kernel
theorem dX2_fillGains_0 : decode cX2_fillGains 0 = .ok (.iconst 0, 1) := by decide +kernel
theorem dX2_fillGains_1 : decode cX2_fillGains 1 = .ok (.istore_n 3, 1) := by decide +kernel
theorem dX2_fillGains_2 : decode cX2_fillGains 2 = .ok (.iload_n 3, 1) := by decide +kernel
theorem dX2_fillGains_3 : decode cX2_fillGains 3 = .ok (.iconst 3, 1) := by decide +kernel
theorem dX2_fillGains_4 : decode cX2_fillGains 4 = .ok (.if_icmp .ge 154, 3) := by decide +kernel
theorem dX2_fillGains_7 : decode cX2_fillGains 7 = .ok (.iconst 0, 1) := by decide +kernel
theorem dX2_fillGains_8 : decode cX2_fillGains 8 = .ok (.istore 4, 2) := by decide +kernel
theorem dX2_fillGains_10 : decode cX2_fillGains 10 = .ok (.iload 4, 2) := by decide +kernel
theorem dX2_fillGains_12 : decode cX2_fillGains 12 = .ok (.iconst 3, 1) := by decide +kernel
theorem dX2_fillGains_13 : decode cX2_fillGains 13 = .ok (.if_icmp .ge 139, 3) := by decide +kernel
theorem dX2_fillGains_16 : decode cX2_fillGains 16 = .ok (.aload_n 0, 1) := by decide +kernel
theorem dX2_fillGains_17 : decode cX2_fillGains 17 = .ok (.getfield 37, 3) := by decide +kernel
theorem dX2_fillGains_20 : decode cX2_fillGains 20 = .ok (.aload_n 0, 1) := by decide +kernel
theorem dX2_fillGains_21 : decode cX2_fillGains 21 = .ok (.getfield 28, 3) := by decide +kernel
theorem dX2_fillGains_24 : decode cX2_fillGains 24 = .ok (.invokevirtual 40, 3) := by decide +kernel
theorem dX2_fillGains_27 : decode cX2_fillGains 27 = .ok (.aload_n 0, 1) := by decide +kernel
theorem dX2_fillGains_28 : decode cX2_fillGains 28 = .ok (.getfield 37, 3) := by decide +kernel
theorem dX2_fillGains_31 : decode cX2_fillGains 31 = .ok (.iload_n 1, 1) := by decide +kernel
theorem dX2_fillGains_32 : decode cX2_fillGains 32 = .ok (.iload_n 3, 1) := by decide +kernel
theorem dX2_fillGains_33 : decode cX2_fillGains 33 = .ok (.invokevirtual 71, 3) := by decide +kernel
theorem dX2_fillGains_36 : decode cX2_fillGains 36 = .ok (.aload_n 0, 1) := by decide +kernel
theorem dX2_fillGains_37 : decode cX2_fillGains 37 = .ok (.getfield 37, 3) := by decide +kernel
theorem dX2_fillGains_40 : decode cX2_fillGains 40 = .ok (.iload_n 2, 1) := by decide +kernel
theorem dX2_fillGains_41 : decode cX2_fillGains 41 = .ok (.iload 4, 2) := by decide +kernel
theorem dX2_fillGains_43 : decode cX2_fillGains 43 = .ok (.invokevirtual 71, 3) := by decide +kernel
theorem dX2_fillGains_46 : decode cX2_fillGains 46 = .ok (.iconst 0, 1) := by decide +kernel
theorem dX2_fillGains_47 : decode cX2_fillGains 47 = .ok (.istore 5, 2) := by decide +kernel
theorem dX2_fillGains_49 : decode cX2_fillGains 49 = .ok (.iload 5, 2) := by decide +kernel
theorem dX2_fillGains_51 : decode cX2_fillGains 51 = .ok (.iconst 3, 1) := by decide +kernel
theorem dX2_fillGains_52 : decode cX2_fillGains 52 = .ok (.if_icmp .ge 17, 3) := by decide +kernel
theorem dX2_fillGains_55 : decode cX2_fillGains 55 = .ok (.aload_n 0, 1) := by decide +kernel
theorem dX2_fillGains_56 : decode cX2_fillGains 56 = .ok (.getfield 37, 3) := by decide +kernel
theorem dX2_fillGains_59 : decode cX2_fillGains 59 = .ok (.invokevirtual 44, 3) := by decide +kernel
theorem dX2_fillGains_62 : decode cX2_fillGains 62 = .ok (.pop, 1) := by decide +kernel
theorem dX2_fillGains_63 : decode cX2_fillGains 63 = .ok (.iinc 5 1, 3) := by decide +kernel
theorem dX2_fillGains_66 : decode cX2_fillGains 66 = .ok (.goto (-17), 3) := by decide +kernel
theorem dX2_fillGains_69 : decode cX2_fillGains 69 = .ok (.iconst 3, 1) := by decide +kernel
theorem dX2_fillGains_70 : decode cX2_fillGains 70 = .ok (.iload_n 3, 1) := by decide +kernel
theorem dX2_fillGains_71 : decode cX2_fillGains 71 = .ok (.imul, 1) := by decide +kernel
theorem dX2_fillGains_72 : decode cX2_fillGains 72 = .ok (.iload 4, 2) := by decide +kernel
theorem dX2_fillGains_74 : decode cX2_fillGains 74 = .ok (.iadd, 1) := by decide +kernel
theorem dX2_fillGains_75 : decode cX2_fillGains 75 = .ok (.istore 5, 2) := by decide +kernel
theorem dX2_fillGains_77 : decode cX2_fillGains 77 = .ok (.aload_n 0, 1) := by decide +kernel
theorem dX2_fillGains_78 : decode cX2_fillGains 78 = .ok (.getfield 18, 3) := by decide +kernel
theorem dX2_fillGains_81 : decode cX2_fillGains 81 = .ok (.iload 5, 2) := by decide +kernel
theorem dX2_fillGains_83 : decode cX2_fillGains 83 = .ok (.aload_n 0, 1) := by decide +kernel
theorem dX2_fillGains_84 : decode cX2_fillGains 84 = .ok (.getfield 37, 3) := by decide +kernel
theorem dX2_fillGains_87 : decode cX2_fillGains 87 = .ok (.getfield 145, 3) := by decide +kernel
theorem dX2_fillGains_90 : decode cX2_fillGains 90 = .ok (.iload_n 1, 1) := by decide +kernel
theorem dX2_fillGains_91 : decode cX2_fillGains 91 = .ok (.iaload, 1) := by decide +kernel
theorem dX2_fillGains_92 : decode cX2_fillGains 92 = .ok (.iload_n 3, 1) := by decide +kernel
theorem dX2_fillGains_93 : decode cX2_fillGains 93 = .ok (.aload_n 0, 1) := by decide +kernel
theorem dX2_fillGains_94 : decode cX2_fillGains 94 = .ok (.getfield 28, 3) := by decide +kernel
theorem dX2_fillGains_97 : decode cX2_fillGains 97 = .ok (.iload_n 1, 1) := by decide +kernel
theorem dX2_fillGains_98 : decode cX2_fillGains 98 = .ok (.invokevirtual 148, 3) := by decide +kernel
theorem dX2_fillGains_101 : decode cX2_fillGains 101 = .ok (.if_icmp .ne 7, 3) := by decide +kernel
theorem dX2_fillGains_104 : decode cX2_fillGains 104 = .ok (.iconst 0, 1) := by decide +kernel
theorem dX2_fillGains_105 : decode cX2_fillGains 105 = .ok (.goto 4, 3) := by decide +kernel
theorem dX2_fillGains_108 : decode cX2_fillGains 108 = .ok (.iconst 1, 1) := by decide +kernel
theorem dX2_fillGains_109 : decode cX2_fillGains 109 = .ok (.isub, 1) := by decide +kernel
theorem dX2_fillGains_110 : decode cX2_fillGains 110 = .ok (.iastore, 1) := by decide +kernel
theorem dX2_fillGains_111 : decode cX2_fillGains 111 = .ok (.aload_n 0, 1) := by decide +kernel
theorem dX2_fillGains_112 : decode cX2_fillGains 112 = .ok (.getfield 21, 3) := by decide +kernel
theorem dX2_fillGains_115 : decode cX2_fillGains 115 = .ok (.iload 5, 2) := by decide +kernel
theorem dX2_fillGains_117 : decode cX2_fillGains 117 = .ok (.aload_n 0, 1) := by decide +kernel
theorem dX2_fillGains_118 : decode cX2_fillGains 118 = .ok (.getfield 37, 3) := by decide +kernel
theorem dX2_fillGains_121 : decode cX2_fillGains 121 = .ok (.getfield 145, 3) := by decide +kernel
theorem dX2_fillGains_124 : decode cX2_fillGains 124 = .ok (.iload_n 2, 1) := by decide +kernel
theorem dX2_fillGains_125 : decode cX2_fillGains 125 = .ok (.iaload, 1) := by decide +kernel
theorem dX2_fillGains_126 : decode cX2_fillGains 126 = .ok (.iload 4, 2) := by decide +kernel
theorem dX2_fillGains_128 : decode cX2_fillGains 128 = .ok (.aload_n 0, 1) := by decide +kernel
theorem dX2_fillGains_129 : decode cX2_fillGains 129 = .ok (.getfield 28, 3) := by decide +kernel
theorem dX2_fillGains_132 : decode cX2_fillGains 132 = .ok (.iload_n 2, 1) := by decide +kernel
theorem dX2_fillGains_133 : decode cX2_fillGains 133 = .ok (.invokevirtual 148, 3) := by decide +kernel
theorem dX2_fillGains_136 : decode cX2_fillGains 136 = .ok (.if_icmp .ne 7, 3) := by decide +kernel
theorem dX2_fillGains_139 : decode cX2_fillGains 139 = .ok (.iconst 0, 1) := by decide +kernel
theorem dX2_fillGains_140 : decode cX2_fillGains 140 = .ok (.goto 4, 3) := by decide +kernel
theorem dX2_fillGains_143 : decode cX2_fillGains 143 = .ok (.iconst 1, 1) := by decide +kernel
theorem dX2_fillGains_144 : decode cX2_fillGains 144 = .ok (.isub, 1) := by decide +kernel
theorem dX2_fillGains_145 : decode cX2_fillGains 145 = .ok (.iastore, 1) := by decide +kernel
theorem dX2_fillGains_146 : decode cX2_fillGains 146 = .ok (.iinc 4 1, 3) := by decide +kernel
theorem dX2_fillGains_149 : decode cX2_fillGains 149 = .ok (.goto (-139), 3) := by decide +kernel
theorem dX2_fillGains_152 : decode cX2_fillGains 152 = .ok (.iinc 3 1, 3) := by decide +kernel
theorem dX2_fillGains_155 : decode cX2_fillGains 155 = .ok (.goto (-153), 3) := by decide +kernel
theorem dX2_fillGains_158 : decode cX2_fillGains 158 = .ok (.return_, 1) := by decide +kernel
theorem dX2_isRest_0 : decode cX2_isRest 0 = .ok (.iconst 3, 1) := by decide +kernel
theorem dX2_isRest_1 : decode cX2_isRest 1 = .ok (.iload_n 1, 1) := by decide +kernel
theorem dX2_isRest_2 : decode cX2_isRest 2 = .ok (.imul, 1) := by decide +kernel
theorem dX2_isRest_3 : decode cX2_isRest 3 = .ok (.iload_n 2, 1) := by decide +kernel
theorem dX2_isRest_4 : decode cX2_isRest 4 = .ok (.iadd, 1) := by decide +kernel
theorem dX2_isRest_5 : decode cX2_isRest 5 = .ok (.istore_n 3, 1) := by decide +kernel
theorem dX2_isRest_6 : decode cX2_isRest 6 = .ok (.iconst 0, 1) := by decide +kernel
theorem dX2_isRest_7 : decode cX2_isRest 7 = .ok (.istore 4, 2) := by decide +kernel
theorem dX2_isRest_9 : decode cX2_isRest 9 = .ok (.iload 4, 2) := by decide +kernel
theorem dX2_isRest_11 : decode cX2_isRest 11 = .ok (.iconst 3, 1) := by decide +kernel
theorem dX2_isRest_12 : decode cX2_isRest 12 = .ok (.if_icmp .ge 51, 3) := by decide +kernel
theorem dX2_isRest_15 : decode cX2_isRest 15 = .ok (.aload_n 0, 1) := by decide +kernel
theorem dX2_isRest_16 : decode cX2_isRest 16 = .ok (.getfield 18, 3) := by decide +kernel
theorem dX2_isRest_19 : decode cX2_isRest 19 = .ok (.iconst 3, 1) := by decide +kernel
theorem dX2_isRest_20 : decode cX2_isRest 20 = .ok (.iload 4, 2) := by decide +kernel
theorem dX2_isRest_22 : decode cX2_isRest 22 = .ok (.imul, 1) := by decide +kernel
theorem dX2_isRest_23 : decode cX2_isRest 23 = .ok (.iload_n 2, 1) := by decide +kernel
theorem dX2_isRest_24 : decode cX2_isRest 24 = .ok (.iadd, 1) := by decide +kernel
theorem dX2_isRest_25 : decode cX2_isRest 25 = .ok (.iaload, 1) := by decide +kernel
theorem dX2_isRest_26 : decode cX2_isRest 26 = .ok (.aload_n 0, 1) := by decide +kernel
theorem dX2_isRest_27 : decode cX2_isRest 27 = .ok (.getfield 18, 3) := by decide +kernel
theorem dX2_isRest_30 : decode cX2_isRest 30 = .ok (.iload_n 3, 1) := by decide +kernel
theorem dX2_isRest_31 : decode cX2_isRest 31 = .ok (.iaload, 1) := by decide +kernel
theorem dX2_isRest_32 : decode cX2_isRest 32 = .ok (.if_icmp .gt 23, 3) := by decide +kernel
theorem dX2_isRest_35 : decode cX2_isRest 35 = .ok (.aload_n 0, 1) := by decide +kernel
theorem dX2_isRest_36 : decode cX2_isRest 36 = .ok (.getfield 21, 3) := by decide +kernel
theorem dX2_isRest_39 : decode cX2_isRest 39 = .ok (.iconst 3, 1) := by decide +kernel
theorem dX2_isRest_40 : decode cX2_isRest 40 = .ok (.iload_n 1, 1) := by decide +kernel
theorem dX2_isRest_41 : decode cX2_isRest 41 = .ok (.imul, 1) := by decide +kernel
theorem dX2_isRest_42 : decode cX2_isRest 42 = .ok (.iload 4, 2) := by decide +kernel
theorem dX2_isRest_44 : decode cX2_isRest 44 = .ok (.iadd, 1) := by decide +kernel
theorem dX2_isRest_45 : decode cX2_isRest 45 = .ok (.iaload, 1) := by decide +kernel
theorem dX2_isRest_46 : decode cX2_isRest 46 = .ok (.aload_n 0, 1) := by decide +kernel
theorem dX2_isRest_47 : decode cX2_isRest 47 = .ok (.getfield 21, 3) := by decide +kernel
theorem dX2_isRest_50 : decode cX2_isRest 50 = .ok (.iload_n 3, 1) := by decide +kernel
theorem dX2_isRest_51 : decode cX2_isRest 51 = .ok (.iaload, 1) := by decide +kernel
theorem dX2_isRest_52 : decode cX2_isRest 52 = .ok (.if_icmp .le 5, 3) := by decide +kernel
theorem dX2_isRest_55 : decode cX2_isRest 55 = .ok (.iconst 0, 1) := by decide +kernel
theorem dX2_isRest_56 : decode cX2_isRest 56 = .ok (.ireturn, 1) := by decide +kernel
theorem dX2_isRest_57 : decode cX2_isRest 57 = .ok (.iinc 4 1, 3) := by decide +kernel
theorem dX2_isRest_60 : decode cX2_isRest 60 = .ok (.goto (-51), 3) := by decide +kernel
theorem dX2_isRest_63 : decode cX2_isRest 63 = .ok (.iconst 1, 1) := by decide +kernel
theorem dX2_isRest_64 : decode cX2_isRest 64 = .ok (.ireturn, 1) := by decide +kernel
theorem dX2_birdsOfYears_0 : decode cX2_birdsOfYears 0 = .ok (.aload_n 0, 1) := by decide +kernel
theorem dX2_birdsOfYears_1 : decode cX2_birdsOfYears 1 = .ok (.getfield 37, 3) := by decide +kernel
theorem dX2_birdsOfYears_4 : decode cX2_birdsOfYears 4 = .ok (.aload_n 0, 1) := by decide +kernel
theorem dX2_birdsOfYears_5 : decode cX2_birdsOfYears 5 = .ok (.getfield 28, 3) := by decide +kernel
theorem dX2_birdsOfYears_8 : decode cX2_birdsOfYears 8 = .ok (.invokevirtual 40, 3) := by decide +kernel
theorem dX2_birdsOfYears_11 : decode cX2_birdsOfYears 11 = .ok (.iconst 0, 1) := by decide +kernel
theorem dX2_birdsOfYears_12 : decode cX2_birdsOfYears 12 = .ok (.istore 4, 2) := by decide +kernel
theorem dX2_birdsOfYears_14 : decode cX2_birdsOfYears 14 = .ok (.lload_n 2, 1) := by decide +kernel
theorem dX2_birdsOfYears_15 : decode cX2_birdsOfYears 15 = .ok (.lstore 5, 2) := by decide +kernel
theorem dX2_birdsOfYears_17 : decode cX2_birdsOfYears 17 = .ok (.iconst 0, 1) := by decide +kernel
theorem dX2_birdsOfYears_18 : decode cX2_birdsOfYears 18 = .ok (.istore 7, 2) := by decide +kernel
theorem dX2_birdsOfYears_20 : decode cX2_birdsOfYears 20 = .ok (.iload 7, 2) := by decide +kernel
theorem dX2_birdsOfYears_22 : decode cX2_birdsOfYears 22 = .ok (.iload_n 1, 1) := by decide +kernel
theorem dX2_birdsOfYears_23 : decode cX2_birdsOfYears 23 = .ok (.if_icmp .ge 51, 3) := by decide +kernel
theorem dX2_birdsOfYears_26 : decode cX2_birdsOfYears 26 = .ok (.lload 5, 2) := by decide +kernel
theorem dX2_birdsOfYears_28 : decode cX2_birdsOfYears 28 = .ok (.ldc2_w 151, 3) := by decide +kernel
theorem dX2_birdsOfYears_31 : decode cX2_birdsOfYears 31 = .ok (.lmul, 1) := by decide +kernel
theorem dX2_birdsOfYears_32 : decode cX2_birdsOfYears 32 = .ok (.ldc2_w 153, 3) := by decide +kernel
theorem dX2_birdsOfYears_35 : decode cX2_birdsOfYears 35 = .ok (.ladd, 1) := by decide +kernel
theorem dX2_birdsOfYears_36 : decode cX2_birdsOfYears 36 = .ok (.lstore 5, 2) := by decide +kernel
theorem dX2_birdsOfYears_38 : decode cX2_birdsOfYears 38 = .ok (.aload_n 0, 1) := by decide +kernel
theorem dX2_birdsOfYears_39 : decode cX2_birdsOfYears 39 = .ok (.lload 5, 2) := by decide +kernel
theorem dX2_birdsOfYears_41 : decode cX2_birdsOfYears 41 = .ok (.bipush 33, 2) := by decide +kernel
theorem dX2_birdsOfYears_43 : decode cX2_birdsOfYears 43 = .ok (.lushr, 1) := by decide +kernel
theorem dX2_birdsOfYears_44 : decode cX2_birdsOfYears 44 = .ok (.ldc2_w 155, 3) := by decide +kernel
theorem dX2_birdsOfYears_47 : decode cX2_birdsOfYears 47 = .ok (.lrem, 1) := by decide +kernel
theorem dX2_birdsOfYears_48 : decode cX2_birdsOfYears 48 = .ok (.l2i, 1) := by decide +kernel
theorem dX2_birdsOfYears_49 : decode cX2_birdsOfYears 49 = .ok (.invokevirtual 157, 3) := by decide +kernel
theorem dX2_birdsOfYears_52 : decode cX2_birdsOfYears 52 = .ok (.iload 4, 2) := by decide +kernel
theorem dX2_birdsOfYears_54 : decode cX2_birdsOfYears 54 = .ok (.aload_n 0, 1) := by decide +kernel
theorem dX2_birdsOfYears_55 : decode cX2_birdsOfYears 55 = .ok (.getfield 37, 3) := by decide +kernel
theorem dX2_birdsOfYears_58 : decode cX2_birdsOfYears 58 = .ok (.iconst 2, 1) := by decide +kernel
theorem dX2_birdsOfYears_59 : decode cX2_birdsOfYears 59 = .ok (.invokevirtual 48, 3) := by decide +kernel
theorem dX2_birdsOfYears_62 : decode cX2_birdsOfYears 62 = .ok (.invokestatic 85, 3) := by decide +kernel
theorem dX2_birdsOfYears_65 : decode cX2_birdsOfYears 65 = .ok (.iadd, 1) := by decide +kernel
theorem dX2_birdsOfYears_66 : decode cX2_birdsOfYears 66 = .ok (.istore 4, 2) := by decide +kernel
theorem dX2_birdsOfYears_68 : decode cX2_birdsOfYears 68 = .ok (.iinc 7 1, 3) := by decide +kernel
theorem dX2_birdsOfYears_71 : decode cX2_birdsOfYears 71 = .ok (.goto (-51), 3) := by decide +kernel
theorem dX2_birdsOfYears_74 : decode cX2_birdsOfYears 74 = .ok (.aload_n 0, 1) := by decide +kernel
theorem dX2_birdsOfYears_75 : decode cX2_birdsOfYears 75 = .ok (.lload 5, 2) := by decide +kernel
theorem dX2_birdsOfYears_77 : decode cX2_birdsOfYears 77 = .ok (.putfield 160, 3) := by decide +kernel
theorem dX2_birdsOfYears_80 : decode cX2_birdsOfYears 80 = .ok (.iload 4, 2) := by decide +kernel
theorem dX2_birdsOfYears_82 : decode cX2_birdsOfYears 82 = .ok (.ireturn, 1) := by decide +kernel
theorem dX2_happen_0 : decode cX2_happen 0 = .ok (.iload_n 1, 1) := by decide +kernel
theorem dX2_happen_1 : decode cX2_happen 1 = .ok (.bipush 12, 2) := by decide +kernel
theorem dX2_happen_3 : decode cX2_happen 3 = .ok (.if_icmp .ge 13, 3) := by decide +kernel
theorem dX2_happen_6 : decode cX2_happen 6 = .ok (.aload_n 0, 1) := by decide +kernel
theorem dX2_happen_7 : decode cX2_happen 7 = .ok (.iconst 0, 1) := by decide +kernel
theorem dX2_happen_8 : decode cX2_happen 8 = .ok (.iload_n 1, 1) := by decide +kernel
theorem dX2_happen_9 : decode cX2_happen 9 = .ok (.invokevirtual 111, 3) := by decide +kernel
theorem dX2_happen_12 : decode cX2_happen 12 = .ok (.pop, 1) := by decide +kernel
theorem dX2_happen_13 : decode cX2_happen 13 = .ok (.goto 47, 3) := by decide +kernel
theorem dX2_happen_16 : decode cX2_happen 16 = .ok (.iload_n 1, 1) := by decide +kernel
theorem dX2_happen_17 : decode cX2_happen 17 = .ok (.bipush 15, 2) := by decide +kernel
theorem dX2_happen_19 : decode cX2_happen 19 = .ok (.if_icmp .ge 16, 3) := by decide +kernel
theorem dX2_happen_22 : decode cX2_happen 22 = .ok (.aload_n 0, 1) := by decide +kernel
theorem dX2_happen_23 : decode cX2_happen 23 = .ok (.iconst 0, 1) := by decide +kernel
theorem dX2_happen_24 : decode cX2_happen 24 = .ok (.iload_n 1, 1) := by decide +kernel
theorem dX2_happen_25 : decode cX2_happen 25 = .ok (.bipush 12, 2) := by decide +kernel
theorem dX2_happen_27 : decode cX2_happen 27 = .ok (.isub, 1) := by decide +kernel
theorem dX2_happen_28 : decode cX2_happen 28 = .ok (.invokevirtual 117, 3) := by decide +kernel
theorem dX2_happen_31 : decode cX2_happen 31 = .ok (.pop, 1) := by decide +kernel
theorem dX2_happen_32 : decode cX2_happen 32 = .ok (.goto 28, 3) := by decide +kernel
theorem dX2_happen_35 : decode cX2_happen 35 = .ok (.iload_n 1, 1) := by decide +kernel
theorem dX2_happen_36 : decode cX2_happen 36 = .ok (.bipush 15, 2) := by decide +kernel
theorem dX2_happen_38 : decode cX2_happen 38 = .ok (.if_icmp .ne 14, 3) := by decide +kernel
theorem dX2_happen_41 : decode cX2_happen 41 = .ok (.aload_n 0, 1) := by decide +kernel
theorem dX2_happen_42 : decode cX2_happen 42 = .ok (.getfield 37, 3) := by decide +kernel
theorem dX2_happen_45 : decode cX2_happen 45 = .ok (.iconst 1, 1) := by decide +kernel
theorem dX2_happen_46 : decode cX2_happen 46 = .ok (.invokevirtual 114, 3) := by decide +kernel
theorem dX2_happen_49 : decode cX2_happen 49 = .ok (.goto 11, 3) := by decide +kernel
theorem dX2_happen_52 : decode cX2_happen 52 = .ok (.aload_n 0, 1) := by decide +kernel
theorem dX2_happen_53 : decode cX2_happen 53 = .ok (.getfield 37, 3) := by decide +kernel
theorem dX2_happen_56 : decode cX2_happen 56 = .ok (.invokevirtual 44, 3) := by decide +kernel
theorem dX2_happen_59 : decode cX2_happen 59 = .ok (.pop, 1) := by decide +kernel
theorem dX2_happen_60 : decode cX2_happen 60 = .ok (.return_, 1) := by decide +kernel
theorem dX3_init_0 : decode cX3_init 0 = .ok (.aload_n 0, 1) := by decide +kernel
theorem dX3_init_1 : decode cX3_init 1 = .ok (.invokespecial 3, 3) := by decide +kernel
theorem dX3_init_4 : decode cX3_init 4 = .ok (.aload_n 0, 1) := by decide +kernel
theorem dX3_init_5 : decode cX3_init 5 = .ok (.new 9, 3) := by decide +kernel
theorem dX3_init_8 : decode cX3_init 8 = .ok (.dup, 1) := by decide +kernel
theorem dX3_init_9 : decode cX3_init 9 = .ok (.bipush 14, 2) := by decide +kernel
theorem dX3_init_11 : decode cX3_init 11 = .ok (.invokespecial 11, 3) := by decide +kernel
theorem dX3_init_14 : decode cX3_init 14 = .ok (.putfield 14, 3) := by decide +kernel
theorem dX3_init_17 : decode cX3_init 17 = .ok (.return_, 1) := by decide +kernel
theorem dX3_clear_0 : decode cX3_clear 0 = .ok (.aload_n 0, 1) := by decide +kernel
theorem dX3_clear_1 : decode cX3_clear 1 = .ok (.iconst 0, 1) := by decide +kernel
theorem dX3_clear_2 : decode cX3_clear 2 = .ok (.putfield 20, 3) := by decide +kernel
theorem dX3_clear_5 : decode cX3_clear 5 = .ok (.aload_n 0, 1) := by decide +kernel
theorem dX3_clear_6 : decode cX3_clear 6 = .ok (.iconst 0, 1) := by decide +kernel
theorem dX3_clear_7 : decode cX3_clear 7 = .ok (.putfield 24, 3) := by decide +kernel
theorem dX3_clear_10 : decode cX3_clear 10 = .ok (.return_, 1) := by decide +kernel
theorem dX3_remember_0 : decode cX3_remember 0 = .ok (.aload_n 0, 1) := by decide +kernel
theorem dX3_remember_1 : decode cX3_remember 1 = .ok (.getfield 14, 3) := by decide +kernel
theorem dX3_remember_4 : decode cX3_remember 4 = .ok (.aload_n 0, 1) := by decide +kernel
theorem dX3_remember_5 : decode cX3_remember 5 = .ok (.getfield 20, 3) := by decide +kernel
theorem dX3_remember_8 : decode cX3_remember 8 = .ok (.aload_n 0, 1) := by decide +kernel
theorem dX3_remember_9 : decode cX3_remember 9 = .ok (.getfield 24, 3) := by decide +kernel
theorem dX3_remember_12 : decode cX3_remember 12 = .ok (.iadd, 1) := by decide +kernel
theorem dX3_remember_13 : decode cX3_remember 13 = .ok (.bipush 14, 2) := by decide +kernel
theorem dX3_remember_15 : decode cX3_remember 15 = .ok (.irem, 1) := by decide +kernel
theorem dX3_remember_16 : decode cX3_remember 16 = .ok (.aload_n 1, 1) := by decide +kernel
theorem dX3_remember_17 : decode cX3_remember 17 = .ok (.invokevirtual 27, 3) := by decide +kernel
theorem dX3_remember_20 : decode cX3_remember 20 = .ok (.aload_n 0, 1) := by decide +kernel
theorem dX3_remember_21 : decode cX3_remember 21 = .ok (.getfield 24, 3) := by decide +kernel
theorem dX3_remember_24 : decode cX3_remember 24 = .ok (.bipush 14, 2) := by decide +kernel
theorem dX3_remember_26 : decode cX3_remember 26 = .ok (.if_icmp .ge 16, 3) := by decide +kernel
theorem dX3_remember_29 : decode cX3_remember 29 = .ok (.aload_n 0, 1) := by decide +kernel
theorem dX3_remember_30 : decode cX3_remember 30 = .ok (.dup, 1) := by decide +kernel
theorem dX3_remember_31 : decode cX3_remember 31 = .ok (.getfield 24, 3) := by decide +kernel
theorem dX3_remember_34 : decode cX3_remember 34 = .ok (.iconst 1, 1) := by decide +kernel
theorem dX3_remember_35 : decode cX3_remember 35 = .ok (.iadd, 1) := by decide +kernel
theorem dX3_remember_36 : decode cX3_remember 36 = .ok (.putfield 24, 3) := by decide +kernel
theorem dX3_remember_39 : decode cX3_remember 39 = .ok (.goto 16, 3) := by decide +kernel
theorem dX3_remember_42 : decode cX3_remember 42 = .ok (.aload_n 0, 1) := by decide +kernel
theorem dX3_remember_43 : decode cX3_remember 43 = .ok (.aload_n 0, 1) := by decide +kernel
theorem dX3_remember_44 : decode cX3_remember 44 = .ok (.getfield 20, 3) := by decide +kernel
theorem dX3_remember_47 : decode cX3_remember 47 = .ok (.iconst 1, 1) := by decide +kernel
theorem dX3_remember_48 : decode cX3_remember 48 = .ok (.iadd, 1) := by decide +kernel
theorem dX3_remember_49 : decode cX3_remember 49 = .ok (.bipush 14, 2) := by decide +kernel
theorem dX3_remember_51 : decode cX3_remember 51 = .ok (.irem, 1) := by decide +kernel
theorem dX3_remember_52 : decode cX3_remember 52 = .ok (.putfield 20, 3) := by decide +kernel
theorem dX3_remember_55 : decode cX3_remember 55 = .ok (.return_, 1) := by decide +kernel
theorem dX3_goBack_0 : decode cX3_goBack 0 = .ok (.aload_n 0, 1) := by decide +kernel
theorem dX3_goBack_1 : decode cX3_goBack 1 = .ok (.getfield 24, 3) := by decide +kernel
theorem dX3_goBack_4 : decode cX3_goBack 4 = .ok (.ifCond .le 33, 3) := by decide +kernel
theorem dX3_goBack_7 : decode cX3_goBack 7 = .ok (.aload_n 0, 1) := by decide +kernel
theorem dX3_goBack_8 : decode cX3_goBack 8 = .ok (.dup, 1) := by decide +kernel
theorem dX3_goBack_9 : decode cX3_goBack 9 = .ok (.getfield 24, 3) := by decide +kernel
theorem dX3_goBack_12 : decode cX3_goBack 12 = .ok (.iconst 1, 1) := by decide +kernel
theorem dX3_goBack_13 : decode cX3_goBack 13 = .ok (.isub, 1) := by decide +kernel
theorem dX3_goBack_14 : decode cX3_goBack 14 = .ok (.putfield 24, 3) := by decide +kernel
theorem dX3_goBack_17 : decode cX3_goBack 17 = .ok (.aload_n 0, 1) := by decide +kernel
theorem dX3_goBack_18 : decode cX3_goBack 18 = .ok (.getfield 14, 3) := by decide +kernel
theorem dX3_goBack_21 : decode cX3_goBack 21 = .ok (.aload_n 0, 1) := by decide +kernel
theorem dX3_goBack_22 : decode cX3_goBack 22 = .ok (.getfield 20, 3) := by decide +kernel
theorem dX3_goBack_25 : decode cX3_goBack 25 = .ok (.aload_n 0, 1) := by decide +kernel
theorem dX3_goBack_26 : decode cX3_goBack 26 = .ok (.getfield 24, 3) := by decide +kernel
theorem dX3_goBack_29 : decode cX3_goBack 29 = .ok (.iadd, 1) := by decide +kernel
theorem dX3_goBack_30 : decode cX3_goBack 30 = .ok (.bipush 14, 2) := by decide +kernel
theorem dX3_goBack_32 : decode cX3_goBack 32 = .ok (.irem, 1) := by decide +kernel
theorem dX3_goBack_33 : decode cX3_goBack 33 = .ok (.aload_n 1, 1) := by decide +kernel
theorem dX3_goBack_34 : decode cX3_goBack 34 = .ok (.invokevirtual 31, 3) := by decide +kernel
theorem dX3_goBack_37 : decode cX3_goBack 37 = .ok (.return_, 1) := by decide +kernel
theorem dX4_init_0 : decode cX4_init 0 = .ok (.aload_n 0, 1) := by decide +kernel
theorem dX4_init_1 : decode cX4_init 1 = .ok (.invokespecial 3, 3) := by decide +kernel
theorem dX4_init_4 : decode cX4_init 4 = .ok (.aload_n 0, 1) := by decide +kernel
theorem dX4_init_5 : decode cX4_init 5 = .ok (.bipush 6, 2) := by decide +kernel
theorem dX4_init_7 : decode cX4_init 7 = .ok (.newarray .int, 2) := by decide +kernel
theorem dX4_init_9 : decode cX4_init 9 = .ok (.putfield 9, 3) := by decide +kernel
theorem dX4_init_12 : decode cX4_init 12 = .ok (.aload_n 0, 1) := by decide +kernel
theorem dX4_init_13 : decode cX4_init 13 = .ok (.bipush 6, 2) := by decide +kernel
theorem dX4_init_15 : decode cX4_init 15 = .ok (.newarray .int, 2) := by decide +kernel
theorem dX4_init_17 : decode cX4_init 17 = .ok (.putfield 15, 3) := by decide +kernel
theorem dX4_init_20 : decode cX4_init 20 = .ok (.aload_n 0, 1) := by decide +kernel
theorem dX4_init_21 : decode cX4_init 21 = .ok (.bipush 6, 2) := by decide +kernel
theorem dX4_init_23 : decode cX4_init 23 = .ok (.newarray .int, 2) := by decide +kernel
theorem dX4_init_25 : decode cX4_init 25 = .ok (.putfield 18, 3) := by decide +kernel
theorem dX4_init_28 : decode cX4_init 28 = .ok (.aload_n 0, 1) := by decide +kernel
theorem dX4_init_29 : decode cX4_init 29 = .ok (.bipush 6, 2) := by decide +kernel
theorem dX4_init_31 : decode cX4_init 31 = .ok (.newarray .int, 2) := by decide +kernel
theorem dX4_init_33 : decode cX4_init 33 = .ok (.putfield 21, 3) := by decide +kernel
theorem dX4_init_36 : decode cX4_init 36 = .ok (.aload_n 0, 1) := by decide +kernel
theorem dX4_init_37 : decode cX4_init 37 = .ok (.iconst 3, 1) := by decide +kernel
theorem dX4_init_38 : decode cX4_init 38 = .ok (.newarray .int, 2) := by decide +kernel
theorem dX4_init_40 : decode cX4_init 40 = .ok (.putfield 24, 3) := by decide +kernel
theorem dX4_init_43 : decode cX4_init 43 = .ok (.aload_n 0, 1) := by decide +kernel
theorem dX4_init_44 : decode cX4_init 44 = .ok (.iconst 3, 1) := by decide +kernel
theorem dX4_init_45 : decode cX4_init 45 = .ok (.newarray .int, 2) := by decide +kernel
theorem dX4_init_47 : decode cX4_init 47 = .ok (.putfield 27, 3) := by decide +kernel
theorem dX4_init_50 : decode cX4_init 50 = .ok (.return_, 1) := by decide +kernel
theorem dX4_clear_0 : decode cX4_clear 0 = .ok (.aload_n 0, 1) := by decide +kernel
theorem dX4_clear_1 : decode cX4_clear 1 = .ok (.iconst 0, 1) := by decide +kernel
theorem dX4_clear_2 : decode cX4_clear 2 = .ok (.putfield 30, 3) := by decide +kernel
theorem dX4_clear_5 : decode cX4_clear 5 = .ok (.aload_n 0, 1) := by decide +kernel
theorem dX4_clear_6 : decode cX4_clear 6 = .ok (.iconst 0, 1) := by decide +kernel
theorem dX4_clear_7 : decode cX4_clear 7 = .ok (.putfield 34, 3) := by decide +kernel
theorem dX4_clear_10 : decode cX4_clear 10 = .ok (.aload_n 0, 1) := by decide +kernel
theorem dX4_clear_11 : decode cX4_clear 11 = .ok (.iconst 0, 1) := by decide +kernel
theorem dX4_clear_12 : decode cX4_clear 12 = .ok (.putfield 37, 3) := by decide +kernel
theorem dX4_clear_15 : decode cX4_clear 15 = .ok (.return_, 1) := by decide +kernel
theorem dX4_hasLetter_0 : decode cX4_hasLetter 0 = .ok (.iload_n 1, 1) := by decide +kernel
theorem dX4_hasLetter_1 : decode cX4_hasLetter 1 = .ok (.ifCond .lt 15, 3) := by decide +kernel
theorem dX4_hasLetter_4 : decode cX4_hasLetter 4 = .ok (.iload_n 1, 1) := by decide +kernel
theorem dX4_hasLetter_5 : decode cX4_hasLetter 5 = .ok (.aload_n 0, 1) := by decide +kernel
theorem dX4_hasLetter_6 : decode cX4_hasLetter 6 = .ok (.getfield 30, 3) := by decide +kernel
theorem dX4_hasLetter_9 : decode cX4_hasLetter 9 = .ok (.if_icmp .ge 7, 3) := by decide +kernel
theorem dX4_hasLetter_12 : decode cX4_hasLetter 12 = .ok (.iconst 1, 1) := by decide +kernel
theorem dX4_hasLetter_13 : decode cX4_hasLetter 13 = .ok (.goto 4, 3) := by decide +kernel
theorem dX4_hasLetter_16 : decode cX4_hasLetter 16 = .ok (.iconst 0, 1) := by decide +kernel
theorem dX4_hasLetter_17 : decode cX4_hasLetter 17 = .ok (.ireturn, 1) := by decide +kernel
theorem dX4_hasClerk_0 : decode cX4_hasClerk 0 = .ok (.iload_n 1, 1) := by decide +kernel
theorem dX4_hasClerk_1 : decode cX4_hasClerk 1 = .ok (.ifCond .lt 15, 3) := by decide +kernel
theorem dX4_hasClerk_4 : decode cX4_hasClerk 4 = .ok (.iload_n 1, 1) := by decide +kernel
theorem dX4_hasClerk_5 : decode cX4_hasClerk 5 = .ok (.aload_n 0, 1) := by decide +kernel
theorem dX4_hasClerk_6 : decode cX4_hasClerk 6 = .ok (.getfield 34, 3) := by decide +kernel
theorem dX4_hasClerk_9 : decode cX4_hasClerk 9 = .ok (.if_icmp .ge 7, 3) := by decide +kernel
theorem dX4_hasClerk_12 : decode cX4_hasClerk 12 = .ok (.iconst 1, 1) := by decide +kernel
theorem dX4_hasClerk_13 : decode cX4_hasClerk 13 = .ok (.goto 4, 3) := by decide +kernel
theorem dX4_hasClerk_16 : decode cX4_hasClerk 16 = .ok (.iconst 0, 1) := by decide +kernel
theorem dX4_hasClerk_17 : decode cX4_hasClerk 17 = .ok (.ireturn, 1) := by decide +kernel
theorem dX4_homesIn_0 : decode cX4_homesIn 0 = .ok (.iconst 0, 1) := by decide +kernel
theorem dX4_homesIn_1 : decode cX4_homesIn 1 = .ok (.istore_n 2, 1) := by decide +kernel
theorem dX4_homesIn_2 : decode cX4_homesIn 2 = .ok (.iconst 0, 1) := by decide +kernel
theorem dX4_homesIn_3 : decode cX4_homesIn 3 = .ok (.istore_n 3, 1) := by decide +kernel
theorem dX4_homesIn_4 : decode cX4_homesIn 4 = .ok (.iload_n 3, 1) := by decide +kernel
theorem dX4_homesIn_5 : decode cX4_homesIn 5 = .ok (.aload_n 0, 1) := by decide +kernel
theorem dX4_homesIn_6 : decode cX4_homesIn 6 = .ok (.getfield 30, 3) := by decide +kernel
theorem dX4_homesIn_9 : decode cX4_homesIn 9 = .ok (.if_icmp .ge 22, 3) := by decide +kernel
theorem dX4_homesIn_12 : decode cX4_homesIn 12 = .ok (.aload_n 0, 1) := by decide +kernel
theorem dX4_homesIn_13 : decode cX4_homesIn 13 = .ok (.getfield 9, 3) := by decide +kernel
theorem dX4_homesIn_16 : decode cX4_homesIn 16 = .ok (.iload_n 3, 1) := by decide +kernel
theorem dX4_homesIn_17 : decode cX4_homesIn 17 = .ok (.iaload, 1) := by decide +kernel
theorem dX4_homesIn_18 : decode cX4_homesIn 18 = .ok (.iload_n 1, 1) := by decide +kernel
theorem dX4_homesIn_19 : decode cX4_homesIn 19 = .ok (.if_icmp .ne 6, 3) := by decide +kernel
theorem dX4_homesIn_22 : decode cX4_homesIn 22 = .ok (.iinc 2 1, 3) := by decide +kernel
theorem dX4_homesIn_25 : decode cX4_homesIn 25 = .ok (.iinc 3 1, 3) := by decide +kernel
theorem dX4_homesIn_28 : decode cX4_homesIn 28 = .ok (.goto (-24), 3) := by decide +kernel
theorem dX4_homesIn_31 : decode cX4_homesIn 31 = .ok (.iload_n 2, 1) := by decide +kernel
theorem dX4_homesIn_32 : decode cX4_homesIn 32 = .ok (.ireturn, 1) := by decide +kernel
theorem dX5_init_0 : decode cX5_init 0 = .ok (.aload_n 0, 1) := by decide +kernel
theorem dX5_init_1 : decode cX5_init 1 = .ok (.invokespecial 3, 3) := by decide +kernel
theorem dX5_init_4 : decode cX5_init 4 = .ok (.aload_n 0, 1) := by decide +kernel
theorem dX5_init_5 : decode cX5_init 5 = .ok (.bipush 48, 2) := by decide +kernel
theorem dX5_init_7 : decode cX5_init 7 = .ok (.newarray .int, 2) := by decide +kernel
theorem dX5_init_9 : decode cX5_init 9 = .ok (.putfield 9, 3) := by decide +kernel
theorem dX5_init_12 : decode cX5_init 12 = .ok (.aload_n 0, 1) := by decide +kernel
theorem dX5_init_13 : decode cX5_init 13 = .ok (.new 15, 3) := by decide +kernel
theorem dX5_init_16 : decode cX5_init 16 = .ok (.dup, 1) := by decide +kernel
theorem dX5_init_17 : decode cX5_init 17 = .ok (.invokespecial 17, 3) := by decide +kernel
theorem dX5_init_20 : decode cX5_init 20 = .ok (.putfield 18, 3) := by decide +kernel
theorem dX5_init_23 : decode cX5_init 23 = .ok (.return_, 1) := by decide +kernel
theorem dX5_add_0 : decode cX5_add 0 = .ok (.aload_n 0, 1) := by decide +kernel
theorem dX5_add_1 : decode cX5_add 1 = .ok (.getfield 22, 3) := by decide +kernel
theorem dX5_add_4 : decode cX5_add 4 = .ok (.bipush 48, 2) := by decide +kernel
theorem dX5_add_6 : decode cX5_add 6 = .ok (.if_icmp .lt 6, 3) := by decide +kernel
theorem dX5_add_9 : decode cX5_add 9 = .ok (.bipush (-4), 2) := by decide +kernel
theorem dX5_add_11 : decode cX5_add 11 = .ok (.ireturn, 1) := by decide +kernel
theorem dX5_add_12 : decode cX5_add 12 = .ok (.aload_n 0, 1) := by decide +kernel
theorem dX5_add_13 : decode cX5_add 13 = .ok (.getfield 9, 3) := by decide +kernel
theorem dX5_add_16 : decode cX5_add 16 = .ok (.aload_n 0, 1) := by decide +kernel
theorem dX5_add_17 : decode cX5_add 17 = .ok (.getfield 22, 3) := by decide +kernel
theorem dX5_add_20 : decode cX5_add 20 = .ok (.iload_n 1, 1) := by decide +kernel
theorem dX5_add_21 : decode cX5_add 21 = .ok (.iastore, 1) := by decide +kernel
theorem dX5_add_22 : decode cX5_add 22 = .ok (.aload_n 0, 1) := by decide +kernel
theorem dX5_add_23 : decode cX5_add 23 = .ok (.dup, 1) := by decide +kernel
theorem dX5_add_24 : decode cX5_add 24 = .ok (.getfield 22, 3) := by decide +kernel
theorem dX5_add_27 : decode cX5_add 27 = .ok (.iconst 1, 1) := by decide +kernel
theorem dX5_add_28 : decode cX5_add 28 = .ok (.iadd, 1) := by decide +kernel
theorem dX5_add_29 : decode cX5_add 29 = .ok (.putfield 22, 3) := by decide +kernel
theorem dX5_add_32 : decode cX5_add 32 = .ok (.aload_n 0, 1) := by decide +kernel
theorem dX5_add_33 : decode cX5_add 33 = .ok (.getfield 22, 3) := by decide +kernel
theorem dX5_add_36 : decode cX5_add 36 = .ok (.ireturn, 1) := by decide +kernel
theorem dX5_clear_0 : decode cX5_clear 0 = .ok (.aload_n 0, 1) := by decide +kernel
theorem dX5_clear_1 : decode cX5_clear 1 = .ok (.getfield 22, 3) := by decide +kernel
theorem dX5_clear_4 : decode cX5_clear 4 = .ok (.istore_n 1, 1) := by decide +kernel
theorem dX5_clear_5 : decode cX5_clear 5 = .ok (.aload_n 0, 1) := by decide +kernel
theorem dX5_clear_6 : decode cX5_clear 6 = .ok (.iconst 0, 1) := by decide +kernel
theorem dX5_clear_7 : decode cX5_clear 7 = .ok (.putfield 22, 3) := by decide +kernel
theorem dX5_clear_10 : decode cX5_clear 10 = .ok (.iload_n 1, 1) := by decide +kernel
theorem dX5_clear_11 : decode cX5_clear 11 = .ok (.ireturn, 1) := by decide +kernel
theorem dX5_firstFault_0 : decode cX5_firstFault 0 = .ok (.aload_n 0, 1) := by decide +kernel
theorem dX5_firstFault_1 : decode cX5_firstFault 1 = .ok (.aload_n 0, 1) := by decide +kernel
theorem dX5_firstFault_2 : decode cX5_firstFault 2 = .ok (.getfield 18, 3) := by decide +kernel
theorem dX5_firstFault_5 : decode cX5_firstFault 5 = .ok (.invokevirtual 26, 3) := by decide +kernel
theorem dX5_firstFault_8 : decode cX5_firstFault 8 = .ok (.ireturn, 1) := by decide +kernel
theorem dX5_readInto_0 : decode cX5_readInto 0 = .ok (.aload_n 1, 1) := by decide +kernel
theorem dX5_readInto_1 : decode cX5_readInto 1 = .ok (.invokevirtual 30, 3) := by decide +kernel
theorem dX5_readInto_4 : decode cX5_readInto 4 = .ok (.iconst 0, 1) := by decide +kernel
theorem dX5_readInto_5 : decode cX5_readInto 5 = .ok (.istore_n 2, 1) := by decide +kernel
theorem dX5_readInto_6 : decode cX5_readInto 6 = .ok (.iconst 0, 1) := by decide +kernel
theorem dX5_readInto_7 : decode cX5_readInto 7 = .ok (.istore_n 3, 1) := by decide +kernel
theorem dX5_readInto_8 : decode cX5_readInto 8 = .ok (.iload_n 3, 1) := by decide +kernel
theorem dX5_readInto_9 : decode cX5_readInto 9 = .ok (.aload_n 0, 1) := by decide +kernel
theorem dX5_readInto_10 : decode cX5_readInto 10 = .ok (.getfield 22, 3) := by decide +kernel
theorem dX5_readInto_13 : decode cX5_readInto 13 = .ok (.if_icmp .ge 47, 3) := by decide +kernel
theorem dX5_readInto_16 : decode cX5_readInto 16 = .ok (.iload_n 2, 1) := by decide +kernel
theorem dX5_readInto_17 : decode cX5_readInto 17 = .ok (.iconst 2, 1) := by decide +kernel
theorem dX5_readInto_18 : decode cX5_readInto 18 = .ok (.if_icmp .gt 17, 3) := by decide +kernel
theorem dX5_readInto_21 : decode cX5_readInto 21 = .ok (.aload_n 1, 1) := by decide +kernel
theorem dX5_readInto_22 : decode cX5_readInto 22 = .ok (.iload_n 2, 1) := by decide +kernel
theorem dX5_readInto_23 : decode cX5_readInto 23 = .ok (.aload_n 0, 1) := by decide +kernel
theorem dX5_readInto_24 : decode cX5_readInto 24 = .ok (.getfield 9, 3) := by decide +kernel
theorem dX5_readInto_27 : decode cX5_readInto 27 = .ok (.iload_n 3, 1) := by decide +kernel
theorem dX5_readInto_28 : decode cX5_readInto 28 = .ok (.iaload, 1) := by decide +kernel
theorem dX5_readInto_29 : decode cX5_readInto 29 = .ok (.invokestatic 33, 3) := by decide +kernel
theorem dX5_readInto_32 : decode cX5_readInto 32 = .ok (.goto 14, 3) := by decide +kernel
theorem dX5_readInto_35 : decode cX5_readInto 35 = .ok (.aload_n 1, 1) := by decide +kernel
theorem dX5_readInto_36 : decode cX5_readInto 36 = .ok (.iload_n 2, 1) := by decide +kernel
theorem dX5_readInto_37 : decode cX5_readInto 37 = .ok (.aload_n 0, 1) := by decide +kernel
theorem dX5_readInto_38 : decode cX5_readInto 38 = .ok (.getfield 9, 3) := by decide +kernel
theorem dX5_readInto_41 : decode cX5_readInto 41 = .ok (.iload_n 3, 1) := by decide +kernel
theorem dX5_readInto_42 : decode cX5_readInto 42 = .ok (.iaload, 1) := by decide +kernel
theorem dX5_readInto_43 : decode cX5_readInto 43 = .ok (.invokestatic 37, 3) := by decide +kernel
theorem dX5_readInto_46 : decode cX5_readInto 46 = .ok (.istore_n 2, 1) := by decide +kernel
theorem dX5_readInto_47 : decode cX5_readInto 47 = .ok (.iload_n 2, 1) := by decide +kernel
theorem dX5_readInto_48 : decode cX5_readInto 48 = .ok (.iconst (-1), 1) := by decide +kernel
theorem dX5_readInto_49 : decode cX5_readInto 49 = .ok (.if_icmp .ne 5, 3) := by decide +kernel
theorem dX5_readInto_52 : decode cX5_readInto 52 = .ok (.iload_n 3, 1) := by decide +kernel
theorem dX5_readInto_53 : decode cX5_readInto 53 = .ok (.ireturn, 1) := by decide +kernel
theorem dX5_readInto_54 : decode cX5_readInto 54 = .ok (.iinc 3 1, 3) := by decide +kernel
theorem dX5_readInto_57 : decode cX5_readInto 57 = .ok (.goto (-49), 3) := by decide +kernel
theorem dX5_readInto_60 : decode cX5_readInto 60 = .ok (.iload_n 2, 1) := by decide +kernel
theorem dX5_readInto_61 : decode cX5_readInto 61 = .ok (.iconst 2, 1) := by decide +kernel
theorem dX5_readInto_62 : decode cX5_readInto 62 = .ok (.if_icmp .ne 8, 3) := by decide +kernel
theorem dX5_readInto_65 : decode cX5_readInto 65 = .ok (.bipush (-9), 2) := by decide +kernel
theorem dX5_readInto_67 : decode cX5_readInto 67 = .ok (.goto 7, 3) := by decide +kernel
theorem dX5_readInto_70 : decode cX5_readInto 70 = .ok (.aload_n 0, 1) := by decide +kernel
theorem dX5_readInto_71 : decode cX5_readInto 71 = .ok (.getfield 22, 3) := by decide +kernel
theorem dX5_readInto_74 : decode cX5_readInto 74 = .ok (.ireturn, 1) := by decide +kernel
theorem dX5_readOutside_0 : decode cX5_readOutside 0 = .ok (.iload_n 1, 1) := by decide +kernel
theorem dX5_readOutside_1 : decode cX5_readOutside 1 = .ok (.ifCond .ne 15, 3) := by decide +kernel
theorem dX5_readOutside_4 : decode cX5_readOutside 4 = .ok (.iload_n 2, 1) := by decide +kernel
theorem dX5_readOutside_5 : decode cX5_readOutside 5 = .ok (.bipush 77, 2) := by decide +kernel
theorem dX5_readOutside_7 : decode cX5_readOutside 7 = .ok (.if_icmp .ne 7, 3) := by decide +kernel
theorem dX5_readOutside_10 : decode cX5_readOutside 10 = .ok (.iconst 1, 1) := by decide +kernel
theorem dX5_readOutside_11 : decode cX5_readOutside 11 = .ok (.goto 4, 3) := by decide +kernel
theorem dX5_readOutside_14 : decode cX5_readOutside 14 = .ok (.iconst (-1), 1) := by decide +kernel
theorem dX5_readOutside_15 : decode cX5_readOutside 15 = .ok (.ireturn, 1) := by decide +kernel
theorem dX5_readOutside_16 : decode cX5_readOutside 16 = .ok (.iload_n 1, 1) := by decide +kernel
theorem dX5_readOutside_17 : decode cX5_readOutside 17 = .ok (.iconst 1, 1) := by decide +kernel
theorem dX5_readOutside_18 : decode cX5_readOutside 18 = .ok (.if_icmp .ne 27, 3) := by decide +kernel
theorem dX5_readOutside_21 : decode cX5_readOutside 21 = .ok (.aload_n 0, 1) := by decide +kernel
theorem dX5_readOutside_22 : decode cX5_readOutside 22 = .ok (.iload_n 2, 1) := by decide +kernel
theorem dX5_readOutside_23 : decode cX5_readOutside 23 = .ok (.bipush 48, 2) := by decide +kernel
theorem dX5_readOutside_25 : decode cX5_readOutside 25 = .ok (.isub, 1) := by decide +kernel
theorem dX5_readOutside_26 : decode cX5_readOutside 26 = .ok (.putfield 40, 3) := by decide +kernel
theorem dX5_readOutside_29 : decode cX5_readOutside 29 = .ok (.iload_n 2, 1) := by decide +kernel
theorem dX5_readOutside_30 : decode cX5_readOutside 30 = .ok (.iconst 0, 1) := by decide +kernel
theorem dX5_readOutside_31 : decode cX5_readOutside 31 = .ok (.bipush 9, 2) := by decide +kernel
theorem dX5_readOutside_33 : decode cX5_readOutside 33 = .ok (.invokestatic 43, 3) := by decide +kernel
theorem dX5_readOutside_36 : decode cX5_readOutside 36 = .ok (.ifCond .eq 7, 3) := by decide +kernel
theorem dX5_readOutside_39 : decode cX5_readOutside 39 = .ok (.iconst 2, 1) := by decide +kernel
theorem dX5_readOutside_40 : decode cX5_readOutside 40 = .ok (.goto 4, 3) := by decide +kernel
theorem dX5_readOutside_43 : decode cX5_readOutside 43 = .ok (.iconst (-1), 1) := by decide +kernel
theorem dX5_readOutside_44 : decode cX5_readOutside 44 = .ok (.ireturn, 1) := by decide +kernel
theorem dX5_readOutside_45 : decode cX5_readOutside 45 = .ok (.iload_n 2, 1) := by decide +kernel
theorem dX5_readOutside_46 : decode cX5_readOutside 46 = .ok (.bipush 76, 2) := by decide +kernel
theorem dX5_readOutside_48 : decode cX5_readOutside 48 = .ok (.if_icmp .ne 14, 3) := by decide +kernel
theorem dX5_readOutside_51 : decode cX5_readOutside 51 = .ok (.aload_n 0, 1) := by decide +kernel
theorem dX5_readOutside_52 : decode cX5_readOutside 52 = .ok (.getfield 47, 3) := by decide +kernel
theorem dX5_readOutside_55 : decode cX5_readOutside 55 = .ok (.bipush 6, 2) := by decide +kernel
theorem dX5_readOutside_57 : decode cX5_readOutside 57 = .ok (.if_icmp .ge 5, 3) := by decide +kernel
theorem dX5_readOutside_60 : decode cX5_readOutside 60 = .ok (.iconst 3, 1) := by decide +kernel
theorem dX5_readOutside_61 : decode cX5_readOutside 61 = .ok (.ireturn, 1) := by decide +kernel
theorem dX5_readOutside_62 : decode cX5_readOutside 62 = .ok (.iload_n 2, 1) := by decide +kernel
theorem dX5_readOutside_63 : decode cX5_readOutside 63 = .ok (.bipush 67, 2) := by decide +kernel
theorem dX5_readOutside_65 : decode cX5_readOutside 65 = .ok (.if_icmp .ne 16, 3) := by decide +kernel
theorem dX5_readOutside_68 : decode cX5_readOutside 68 = .ok (.aload_n 0, 1) := by decide +kernel
theorem dX5_readOutside_69 : decode cX5_readOutside 69 = .ok (.getfield 50, 3) := by decide +kernel
theorem dX5_readOutside_72 : decode cX5_readOutside 72 = .ok (.iconst 3, 1) := by decide +kernel
theorem dX5_readOutside_73 : decode cX5_readOutside 73 = .ok (.if_icmp .ge 8, 3) := by decide +kernel
theorem dX5_readOutside_76 : decode cX5_readOutside 76 = .ok (.bipush 6, 2) := by decide +kernel
theorem dX5_readOutside_78 : decode cX5_readOutside 78 = .ok (.goto 4, 3) := by decide +kernel
theorem dX5_readOutside_81 : decode cX5_readOutside 81 = .ok (.iconst (-1), 1) := by decide +kernel
theorem dX5_readOutside_82 : decode cX5_readOutside 82 = .ok (.ireturn, 1) := by decide +kernel
theorem dX5_readInside_0 : decode cX5_readInside 0 = .ok (.aload_n 0, 1) := by decide +kernel
theorem dX5_readInside_1 : decode cX5_readInside 1 = .ok (.getfield 47, 3) := by decide +kernel
theorem dX5_readInside_4 : decode cX5_readInside 4 = .ok (.istore_n 3, 1) := by decide +kernel
theorem dX5_readInside_5 : decode cX5_readInside 5 = .ok (.aload_n 0, 1) := by decide +kernel
theorem dX5_readInside_6 : decode cX5_readInside 6 = .ok (.getfield 50, 3) := by decide +kernel
theorem dX5_readInside_9 : decode cX5_readInside 9 = .ok (.istore 4, 2) := by decide +kernel
theorem dX5_readInside_11 : decode cX5_readInside 11 = .ok (.iload_n 1, 1) := by decide +kernel
theorem dX5_readInside_12 : decode cX5_readInside 12 = .ok (.iconst 5, 1) := by decide +kernel
theorem dX5_readInside_13 : decode cX5_readInside 13 = .ok (.if_icmp .gt 12, 3) := by decide +kernel
theorem dX5_readInside_16 : decode cX5_readInside 16 = .ok (.iload_n 3, 1) := by decide +kernel
theorem dX5_readInside_17 : decode cX5_readInside 17 = .ok (.bipush 6, 2) := by decide +kernel
theorem dX5_readInside_19 : decode cX5_readInside 19 = .ok (.if_icmp .lt 14, 3) := by decide +kernel
theorem dX5_readInside_22 : decode cX5_readInside 22 = .ok (.goto 9, 3) := by decide +kernel
theorem dX5_readInside_25 : decode cX5_readInside 25 = .ok (.iload 4, 2) := by decide +kernel
theorem dX5_readInside_27 : decode cX5_readInside 27 = .ok (.iconst 3, 1) := by decide +kernel
theorem dX5_readInside_28 : decode cX5_readInside 28 = .ok (.if_icmp .lt 5, 3) := by decide +kernel
theorem dX5_readInside_31 : decode cX5_readInside 31 = .ok (.iconst (-1), 1) := by decide +kernel
theorem dX5_readInside_32 : decode cX5_readInside 32 = .ok (.ireturn, 1) := by decide +kernel
theorem dX5_readInside_33 : decode cX5_readInside 33 = .ok (.iload_n 1, 1) := by decide +kernel
theorem dX5_readInside_34 : decode cX5_readInside 34 = .ok (.tableswitch 175 3 6 #[30, 68, 94, 148], 30) := by decide +kernel
theorem dX5_readInside_64 : decode cX5_readInside 64 = .ok (.aload_n 0, 1) := by decide +kernel
theorem dX5_readInside_65 : decode cX5_readInside 65 = .ok (.getfield 53, 3) := by decide +kernel
theorem dX5_readInside_68 : decode cX5_readInside 68 = .ok (.iload_n 3, 1) := by decide +kernel
theorem dX5_readInside_69 : decode cX5_readInside 69 = .ok (.iload_n 2, 1) := by decide +kernel
theorem dX5_readInside_70 : decode cX5_readInside 70 = .ok (.bipush 97, 2) := by decide +kernel
theorem dX5_readInside_72 : decode cX5_readInside 72 = .ok (.isub, 1) := by decide +kernel
theorem dX5_readInside_73 : decode cX5_readInside 73 = .ok (.iastore, 1) := by decide +kernel
theorem dX5_readInside_74 : decode cX5_readInside 74 = .ok (.iload_n 2, 1) := by decide +kernel
theorem dX5_readInside_75 : decode cX5_readInside 75 = .ok (.bipush 97, 2) := by decide +kernel
theorem dX5_readInside_77 : decode cX5_readInside 77 = .ok (.isub, 1) := by decide +kernel
theorem dX5_readInside_78 : decode cX5_readInside 78 = .ok (.invokestatic 56, 3) := by decide +kernel
theorem dX5_readInside_81 : decode cX5_readInside 81 = .ok (.ifCond .eq 19, 3) := by decide +kernel
theorem dX5_readInside_84 : decode cX5_readInside 84 = .ok (.aload_n 0, 1) := by decide +kernel
theorem dX5_readInside_85 : decode cX5_readInside 85 = .ok (.iload_n 2, 1) := by decide +kernel
theorem dX5_readInside_86 : decode cX5_readInside 86 = .ok (.bipush 97, 2) := by decide +kernel
theorem dX5_readInside_88 : decode cX5_readInside 88 = .ok (.isub, 1) := by decide +kernel
theorem dX5_readInside_89 : decode cX5_readInside 89 = .ok (.invokevirtual 60, 3) := by decide +kernel
theorem dX5_readInside_92 : decode cX5_readInside 92 = .ok (.iconst 2, 1) := by decide +kernel
theorem dX5_readInside_93 : decode cX5_readInside 93 = .ok (.if_icmp .ge 7, 3) := by decide +kernel
theorem dX5_readInside_96 : decode cX5_readInside 96 = .ok (.iconst 4, 1) := by decide +kernel
theorem dX5_readInside_97 : decode cX5_readInside 97 = .ok (.goto 4, 3) := by decide +kernel
theorem dX5_readInside_100 : decode cX5_readInside 100 = .ok (.iconst (-1), 1) := by decide +kernel
theorem dX5_readInside_101 : decode cX5_readInside 101 = .ok (.ireturn, 1) := by decide +kernel
theorem dX5_readInside_102 : decode cX5_readInside 102 = .ok (.aload_n 0, 1) := by decide +kernel
theorem dX5_readInside_103 : decode cX5_readInside 103 = .ok (.getfield 64, 3) := by decide +kernel
theorem dX5_readInside_106 : decode cX5_readInside 106 = .ok (.iload_n 3, 1) := by decide +kernel
theorem dX5_readInside_107 : decode cX5_readInside 107 = .ok (.iload_n 2, 1) := by decide +kernel
theorem dX5_readInside_108 : decode cX5_readInside 108 = .ok (.bipush 48, 2) := by decide +kernel
theorem dX5_readInside_110 : decode cX5_readInside 110 = .ok (.isub, 1) := by decide +kernel
theorem dX5_readInside_111 : decode cX5_readInside 111 = .ok (.iastore, 1) := by decide +kernel
theorem dX5_readInside_112 : decode cX5_readInside 112 = .ok (.iload_n 2, 1) := by decide +kernel
theorem dX5_readInside_113 : decode cX5_readInside 113 = .ok (.iconst 1, 1) := by decide +kernel
theorem dX5_readInside_114 : decode cX5_readInside 114 = .ok (.bipush 9, 2) := by decide +kernel
theorem dX5_readInside_116 : decode cX5_readInside 116 = .ok (.invokestatic 43, 3) := by decide +kernel
theorem dX5_readInside_119 : decode cX5_readInside 119 = .ok (.ifCond .eq 7, 3) := by decide +kernel
theorem dX5_readInside_122 : decode cX5_readInside 122 = .ok (.iconst 5, 1) := by decide +kernel
theorem dX5_readInside_123 : decode cX5_readInside 123 = .ok (.goto 4, 3) := by decide +kernel
theorem dX5_readInside_126 : decode cX5_readInside 126 = .ok (.iconst (-1), 1) := by decide +kernel
theorem dX5_readInside_127 : decode cX5_readInside 127 = .ok (.ireturn, 1) := by decide +kernel
theorem dX5_readInside_128 : decode cX5_readInside 128 = .ok (.iload_n 2, 1) := by decide +kernel
theorem dX5_readInside_129 : decode cX5_readInside 129 = .ok (.iconst 0, 1) := by decide +kernel
theorem dX5_readInside_130 : decode cX5_readInside 130 = .ok (.iconst 3, 1) := by decide +kernel
theorem dX5_readInside_131 : decode cX5_readInside 131 = .ok (.invokestatic 43, 3) := by decide +kernel
theorem dX5_readInside_134 : decode cX5_readInside 134 = .ok (.ifCond .ne 5, 3) := by decide +kernel
theorem dX5_readInside_137 : decode cX5_readInside 137 = .ok (.iconst (-1), 1) := by decide +kernel
theorem dX5_readInside_138 : decode cX5_readInside 138 = .ok (.ireturn, 1) := by decide +kernel
theorem dX5_readInside_139 : decode cX5_readInside 139 = .ok (.aload_n 0, 1) := by decide +kernel
theorem dX5_readInside_140 : decode cX5_readInside 140 = .ok (.getfield 67, 3) := by decide +kernel
theorem dX5_readInside_143 : decode cX5_readInside 143 = .ok (.iload_n 3, 1) := by decide +kernel
theorem dX5_readInside_144 : decode cX5_readInside 144 = .ok (.iload_n 2, 1) := by decide +kernel
theorem dX5_readInside_145 : decode cX5_readInside 145 = .ok (.bipush 48, 2) := by decide +kernel
theorem dX5_readInside_147 : decode cX5_readInside 147 = .ok (.isub, 1) := by decide +kernel
theorem dX5_readInside_148 : decode cX5_readInside 148 = .ok (.iastore, 1) := by decide +kernel
theorem dX5_readInside_149 : decode cX5_readInside 149 = .ok (.aload_n 0, 1) := by decide +kernel
theorem dX5_readInside_150 : decode cX5_readInside 150 = .ok (.getfield 70, 3) := by decide +kernel
theorem dX5_readInside_153 : decode cX5_readInside 153 = .ok (.iload_n 3, 1) := by decide +kernel
theorem dX5_readInside_154 : decode cX5_readInside 154 = .ok (.aload_n 0, 1) := by decide +kernel
theorem dX5_readInside_155 : decode cX5_readInside 155 = .ok (.getfield 64, 3) := by decide +kernel
theorem dX5_readInside_158 : decode cX5_readInside 158 = .ok (.iload_n 3, 1) := by decide +kernel
theorem dX5_readInside_159 : decode cX5_readInside 159 = .ok (.iaload, 1) := by decide +kernel
theorem dX5_readInside_160 : decode cX5_readInside 160 = .ok (.aload_n 0, 1) := by decide +kernel
theorem dX5_readInside_161 : decode cX5_readInside 161 = .ok (.getfield 67, 3) := by decide +kernel
theorem dX5_readInside_164 : decode cX5_readInside 164 = .ok (.iload_n 3, 1) := by decide +kernel
theorem dX5_readInside_165 : decode cX5_readInside 165 = .ok (.iaload, 1) := by decide +kernel
theorem dX5_readInside_166 : decode cX5_readInside 166 = .ok (.invokestatic 73, 3) := by decide +kernel
theorem dX5_readInside_169 : decode cX5_readInside 169 = .ok (.iastore, 1) := by decide +kernel
theorem dX5_readInside_170 : decode cX5_readInside 170 = .ok (.aload_n 0, 1) := by decide +kernel
theorem dX5_readInside_171 : decode cX5_readInside 171 = .ok (.dup, 1) := by decide +kernel
theorem dX5_readInside_172 : decode cX5_readInside 172 = .ok (.getfield 47, 3) := by decide +kernel
theorem dX5_readInside_175 : decode cX5_readInside 175 = .ok (.iconst 1, 1) := by decide +kernel
theorem dX5_readInside_176 : decode cX5_readInside 176 = .ok (.iadd, 1) := by decide +kernel
theorem dX5_readInside_177 : decode cX5_readInside 177 = .ok (.putfield 47, 3) := by decide +kernel
theorem dX5_readInside_180 : decode cX5_readInside 180 = .ok (.iconst 2, 1) := by decide +kernel
theorem dX5_readInside_181 : decode cX5_readInside 181 = .ok (.ireturn, 1) := by decide +kernel
theorem dX5_readInside_182 : decode cX5_readInside 182 = .ok (.aload_n 0, 1) := by decide +kernel
theorem dX5_readInside_183 : decode cX5_readInside 183 = .ok (.getfield 77, 3) := by decide +kernel
theorem dX5_readInside_186 : decode cX5_readInside 186 = .ok (.iload 4, 2) := by decide +kernel
theorem dX5_readInside_188 : decode cX5_readInside 188 = .ok (.iload_n 2, 1) := by decide +kernel
theorem dX5_readInside_189 : decode cX5_readInside 189 = .ok (.bipush 48, 2) := by decide +kernel
theorem dX5_readInside_191 : decode cX5_readInside 191 = .ok (.isub, 1) := by decide +kernel
theorem dX5_readInside_192 : decode cX5_readInside 192 = .ok (.iastore, 1) := by decide +kernel
theorem dX5_readInside_193 : decode cX5_readInside 193 = .ok (.iload_n 2, 1) := by decide +kernel
theorem dX5_readInside_194 : decode cX5_readInside 194 = .ok (.iconst 0, 1) := by decide +kernel
theorem dX5_readInside_195 : decode cX5_readInside 195 = .ok (.iconst 2, 1) := by decide +kernel
theorem dX5_readInside_196 : decode cX5_readInside 196 = .ok (.invokestatic 43, 3) := by decide +kernel
theorem dX5_readInside_199 : decode cX5_readInside 199 = .ok (.ifCond .eq 8, 3) := by decide +kernel
theorem dX5_readInside_202 : decode cX5_readInside 202 = .ok (.bipush 7, 2) := by decide +kernel
theorem dX5_readInside_204 : decode cX5_readInside 204 = .ok (.goto 4, 3) := by decide +kernel
theorem dX5_readInside_207 : decode cX5_readInside 207 = .ok (.iconst (-1), 1) := by decide +kernel
theorem dX5_readInside_208 : decode cX5_readInside 208 = .ok (.ireturn, 1) := by decide +kernel
theorem dX5_readInside_209 : decode cX5_readInside 209 = .ok (.iload_n 2, 1) := by decide +kernel
theorem dX5_readInside_210 : decode cX5_readInside 210 = .ok (.iconst 1, 1) := by decide +kernel
theorem dX5_readInside_211 : decode cX5_readInside 211 = .ok (.iconst 3, 1) := by decide +kernel
theorem dX5_readInside_212 : decode cX5_readInside 212 = .ok (.invokestatic 43, 3) := by decide +kernel
theorem dX5_readInside_215 : decode cX5_readInside 215 = .ok (.ifCond .ne 5, 3) := by decide +kernel
theorem dX5_readInside_218 : decode cX5_readInside 218 = .ok (.iconst (-1), 1) := by decide +kernel
theorem dX5_readInside_219 : decode cX5_readInside 219 = .ok (.ireturn, 1) := by decide +kernel
theorem dX5_readInside_220 : decode cX5_readInside 220 = .ok (.aload_n 0, 1) := by decide +kernel
theorem dX5_readInside_221 : decode cX5_readInside 221 = .ok (.getfield 80, 3) := by decide +kernel
theorem dX5_readInside_224 : decode cX5_readInside 224 = .ok (.iload 4, 2) := by decide +kernel
theorem dX5_readInside_226 : decode cX5_readInside 226 = .ok (.iload_n 2, 1) := by decide +kernel
theorem dX5_readInside_227 : decode cX5_readInside 227 = .ok (.bipush 48, 2) := by decide +kernel
theorem dX5_readInside_229 : decode cX5_readInside 229 = .ok (.isub, 1) := by decide +kernel
theorem dX5_readInside_230 : decode cX5_readInside 230 = .ok (.iastore, 1) := by decide +kernel
theorem dX5_readInside_231 : decode cX5_readInside 231 = .ok (.aload_n 0, 1) := by decide +kernel
theorem dX5_readInside_232 : decode cX5_readInside 232 = .ok (.dup, 1) := by decide +kernel
theorem dX5_readInside_233 : decode cX5_readInside 233 = .ok (.getfield 50, 3) := by decide +kernel
theorem dX5_readInside_236 : decode cX5_readInside 236 = .ok (.iconst 1, 1) := by decide +kernel
theorem dX5_readInside_237 : decode cX5_readInside 237 = .ok (.iadd, 1) := by decide +kernel
theorem dX5_readInside_238 : decode cX5_readInside 238 = .ok (.putfield 50, 3) := by decide +kernel
theorem dX5_readInside_241 : decode cX5_readInside 241 = .ok (.iconst 2, 1) := by decide +kernel
theorem dX5_readInside_242 : decode cX5_readInside 242 = .ok (.ireturn, 1) := by decide +kernel
theorem dX5_isFigure_0 : decode cX5_isFigure 0 = .ok (.iload_n 0, 1) := by decide +kernel
theorem dX5_isFigure_1 : decode cX5_isFigure 1 = .ok (.bipush 48, 2) := by decide +kernel
theorem dX5_isFigure_3 : decode cX5_isFigure 3 = .ok (.iload_n 1, 1) := by decide +kernel
theorem dX5_isFigure_4 : decode cX5_isFigure 4 = .ok (.iadd, 1) := by decide +kernel
theorem dX5_isFigure_5 : decode cX5_isFigure 5 = .ok (.if_icmp .lt 15, 3) := by decide +kernel
theorem dX5_isFigure_8 : decode cX5_isFigure 8 = .ok (.iload_n 0, 1) := by decide +kernel
theorem dX5_isFigure_9 : decode cX5_isFigure 9 = .ok (.bipush 48, 2) := by decide +kernel
theorem dX5_isFigure_11 : decode cX5_isFigure 11 = .ok (.iload_n 2, 1) := by decide +kernel
theorem dX5_isFigure_12 : decode cX5_isFigure 12 = .ok (.iadd, 1) := by decide +kernel
theorem dX5_isFigure_13 : decode cX5_isFigure 13 = .ok (.if_icmp .gt 7, 3) := by decide +kernel
theorem dX5_isFigure_16 : decode cX5_isFigure 16 = .ok (.iconst 1, 1) := by decide +kernel
theorem dX5_isFigure_17 : decode cX5_isFigure 17 = .ok (.goto 4, 3) := by decide +kernel
theorem dX5_isFigure_20 : decode cX5_isFigure 20 = .ok (.iconst 0, 1) := by decide +kernel
theorem dX5_isFigure_21 : decode cX5_isFigure 21 = .ok (.ireturn, 1) := by decide +kernel
theorem dX6_init_0 : decode cX6_init 0 = .ok (.aload_n 0, 1) := by decide +kernel
theorem dX6_init_1 : decode cX6_init 1 = .ok (.invokespecial 1, 3) := by decide +kernel
theorem dX6_init_4 : decode cX6_init 4 = .ok (.aload_n 0, 1) := by decide +kernel
theorem dX6_init_5 : decode cX6_init 5 = .ok (.iconst 0, 1) := by decide +kernel
theorem dX6_init_6 : decode cX6_init 6 = .ok (.iload_n 1, 1) := by decide +kernel
theorem dX6_init_7 : decode cX6_init 7 = .ok (.invokestatic 7, 3) := by decide +kernel
theorem dX6_init_10 : decode cX6_init 10 = .ok (.putfield 13, 3) := by decide +kernel
theorem dX6_init_13 : decode cX6_init 13 = .ok (.aload_n 0, 1) := by decide +kernel
theorem dX6_init_14 : decode cX6_init 14 = .ok (.aload_n 0, 1) := by decide +kernel
theorem dX6_init_15 : decode cX6_init 15 = .ok (.getfield 13, 3) := by decide +kernel
theorem dX6_init_18 : decode cX6_init 18 = .ok (.bipush 23, 2) := by decide +kernel
theorem dX6_init_20 : decode cX6_init 20 = .ok (.imul, 1) := by decide +kernel
theorem dX6_init_21 : decode cX6_init 21 = .ok (.newarray .int, 2) := by decide +kernel
theorem dX6_init_23 : decode cX6_init 23 = .ok (.putfield 21, 3) := by decide +kernel
theorem dX6_init_26 : decode cX6_init 26 = .ok (.return_, 1) := by decide +kernel
theorem dX6_store_0 : decode cX6_store 0 = .ok (.iload_n 1, 1) := by decide +kernel
theorem dX6_store_1 : decode cX6_store 1 = .ok (.ifCond .lt 29, 3) := by decide +kernel
theorem dX6_store_4 : decode cX6_store 4 = .ok (.iload_n 1, 1) := by decide +kernel
theorem dX6_store_5 : decode cX6_store 5 = .ok (.aload_n 0, 1) := by decide +kernel
theorem dX6_store_6 : decode cX6_store 6 = .ok (.getfield 13, 3) := by decide +kernel
theorem dX6_store_9 : decode cX6_store 9 = .ok (.if_icmp .ge 21, 3) := by decide +kernel
theorem dX6_store_12 : decode cX6_store 12 = .ok (.aload_n 2, 1) := by decide +kernel
theorem dX6_store_13 : decode cX6_store 13 = .ok (.getfield 25, 3) := by decide +kernel
theorem dX6_store_16 : decode cX6_store 16 = .ok (.iconst 0, 1) := by decide +kernel
theorem dX6_store_17 : decode cX6_store 17 = .ok (.aload_n 0, 1) := by decide +kernel
theorem dX6_store_18 : decode cX6_store 18 = .ok (.getfield 21, 3) := by decide +kernel
theorem dX6_store_21 : decode cX6_store 21 = .ok (.iload_n 1, 1) := by decide +kernel
theorem dX6_store_22 : decode cX6_store 22 = .ok (.bipush 23, 2) := by decide +kernel
theorem dX6_store_24 : decode cX6_store 24 = .ok (.imul, 1) := by decide +kernel
theorem dX6_store_25 : decode cX6_store 25 = .ok (.bipush 23, 2) := by decide +kernel
theorem dX6_store_27 : decode cX6_store 27 = .ok (.invokestatic 26, 3) := by decide +kernel
theorem dX6_store_30 : decode cX6_store 30 = .ok (.return_, 1) := by decide +kernel
theorem dX6_fetch_0 : decode cX6_fetch 0 = .ok (.iload_n 1, 1) := by decide +kernel
theorem dX6_fetch_1 : decode cX6_fetch 1 = .ok (.ifCond .lt 29, 3) := by decide +kernel
theorem dX6_fetch_4 : decode cX6_fetch 4 = .ok (.iload_n 1, 1) := by decide +kernel
theorem dX6_fetch_5 : decode cX6_fetch 5 = .ok (.aload_n 0, 1) := by decide +kernel
theorem dX6_fetch_6 : decode cX6_fetch 6 = .ok (.getfield 13, 3) := by decide +kernel
theorem dX6_fetch_9 : decode cX6_fetch 9 = .ok (.if_icmp .ge 21, 3) := by decide +kernel
theorem dX6_fetch_12 : decode cX6_fetch 12 = .ok (.aload_n 0, 1) := by decide +kernel
theorem dX6_fetch_13 : decode cX6_fetch 13 = .ok (.getfield 21, 3) := by decide +kernel
theorem dX6_fetch_16 : decode cX6_fetch 16 = .ok (.iload_n 1, 1) := by decide +kernel
theorem dX6_fetch_17 : decode cX6_fetch 17 = .ok (.bipush 23, 2) := by decide +kernel
theorem dX6_fetch_19 : decode cX6_fetch 19 = .ok (.imul, 1) := by decide +kernel
theorem dX6_fetch_20 : decode cX6_fetch 20 = .ok (.aload_n 2, 1) := by decide +kernel
theorem dX6_fetch_21 : decode cX6_fetch 21 = .ok (.getfield 25, 3) := by decide +kernel
theorem dX6_fetch_24 : decode cX6_fetch 24 = .ok (.iconst 0, 1) := by decide +kernel
theorem dX6_fetch_25 : decode cX6_fetch 25 = .ok (.bipush 23, 2) := by decide +kernel
theorem dX6_fetch_27 : decode cX6_fetch 27 = .ok (.invokestatic 26, 3) := by decide +kernel
theorem dX6_fetch_30 : decode cX6_fetch 30 = .ok (.return_, 1) := by decide +kernel
theorem dX7_init_0 : decode cX7_init 0 = .ok (.aload_n 0, 1) := by decide +kernel
theorem dX7_init_1 : decode cX7_init 1 = .ok (.invokespecial 3, 3) := by decide +kernel
theorem dX7_init_4 : decode cX7_init 4 = .ok (.aload_n 0, 1) := by decide +kernel
theorem dX7_init_5 : decode cX7_init 5 = .ok (.bipush 6, 2) := by decide +kernel
theorem dX7_init_7 : decode cX7_init 7 = .ok (.newarray .int, 2) := by decide +kernel
theorem dX7_init_9 : decode cX7_init 9 = .ok (.putfield 9, 3) := by decide +kernel
theorem dX7_init_12 : decode cX7_init 12 = .ok (.aload_n 0, 1) := by decide +kernel
theorem dX7_init_13 : decode cX7_init 13 = .ok (.bipush 6, 2) := by decide +kernel
theorem dX7_init_15 : decode cX7_init 15 = .ok (.newarray .boolean, 2) := by decide +kernel
theorem dX7_init_17 : decode cX7_init 17 = .ok (.putfield 15, 3) := by decide +kernel
theorem dX7_init_20 : decode cX7_init 20 = .ok (.return_, 1) := by decide +kernel
theorem dX7_add_0 : decode cX7_add 0 = .ok (.aload_n 0, 1) := by decide +kernel
theorem dX7_add_1 : decode cX7_add 1 = .ok (.getfield 19, 3) := by decide +kernel
theorem dX7_add_4 : decode cX7_add 4 = .ok (.bipush 6, 2) := by decide +kernel
theorem dX7_add_6 : decode cX7_add 6 = .ok (.if_icmp .lt 6, 3) := by decide +kernel
theorem dX7_add_9 : decode cX7_add 9 = .ok (.bipush (-4), 2) := by decide +kernel
theorem dX7_add_11 : decode cX7_add 11 = .ok (.ireturn, 1) := by decide +kernel
theorem dX7_add_12 : decode cX7_add 12 = .ok (.aload_n 0, 1) := by decide +kernel
theorem dX7_add_13 : decode cX7_add 13 = .ok (.getfield 9, 3) := by decide +kernel
theorem dX7_add_16 : decode cX7_add 16 = .ok (.aload_n 0, 1) := by decide +kernel
theorem dX7_add_17 : decode cX7_add 17 = .ok (.getfield 19, 3) := by decide +kernel
theorem dX7_add_20 : decode cX7_add 20 = .ok (.iload_n 1, 1) := by decide +kernel
theorem dX7_add_21 : decode cX7_add 21 = .ok (.iastore, 1) := by decide +kernel
theorem dX7_add_22 : decode cX7_add 22 = .ok (.aload_n 0, 1) := by decide +kernel
theorem dX7_add_23 : decode cX7_add 23 = .ok (.getfield 15, 3) := by decide +kernel
theorem dX7_add_26 : decode cX7_add 26 = .ok (.aload_n 0, 1) := by decide +kernel
theorem dX7_add_27 : decode cX7_add 27 = .ok (.getfield 19, 3) := by decide +kernel
theorem dX7_add_30 : decode cX7_add 30 = .ok (.iload_n 2, 1) := by decide +kernel
theorem dX7_add_31 : decode cX7_add 31 = .ok (.bastore, 1) := by decide +kernel
theorem dX7_add_32 : decode cX7_add 32 = .ok (.aload_n 0, 1) := by decide +kernel
theorem dX7_add_33 : decode cX7_add 33 = .ok (.dup, 1) := by decide +kernel
theorem dX7_add_34 : decode cX7_add 34 = .ok (.getfield 19, 3) := by decide +kernel
theorem dX7_add_37 : decode cX7_add 37 = .ok (.iconst 1, 1) := by decide +kernel
theorem dX7_add_38 : decode cX7_add 38 = .ok (.iadd, 1) := by decide +kernel
theorem dX7_add_39 : decode cX7_add 39 = .ok (.putfield 19, 3) := by decide +kernel
theorem dX7_add_42 : decode cX7_add 42 = .ok (.aload_n 0, 1) := by decide +kernel
theorem dX7_add_43 : decode cX7_add 43 = .ok (.getfield 19, 3) := by decide +kernel
theorem dX7_add_46 : decode cX7_add 46 = .ok (.ireturn, 1) := by decide +kernel
theorem dX7_clear_0 : decode cX7_clear 0 = .ok (.aload_n 0, 1) := by decide +kernel
theorem dX7_clear_1 : decode cX7_clear 1 = .ok (.getfield 19, 3) := by decide +kernel
theorem dX7_clear_4 : decode cX7_clear 4 = .ok (.istore_n 1, 1) := by decide +kernel
theorem dX7_clear_5 : decode cX7_clear 5 = .ok (.aload_n 0, 1) := by decide +kernel
theorem dX7_clear_6 : decode cX7_clear 6 = .ok (.iconst 0, 1) := by decide +kernel
theorem dX7_clear_7 : decode cX7_clear 7 = .ok (.putfield 19, 3) := by decide +kernel
theorem dX7_clear_10 : decode cX7_clear 10 = .ok (.iload_n 1, 1) := by decide +kernel
theorem dX7_clear_11 : decode cX7_clear 11 = .ok (.ireturn, 1) := by decide +kernel
theorem dX7_howMany_0 : decode cX7_howMany 0 = .ok (.iconst 0, 1) := by decide +kernel
theorem dX7_howMany_1 : decode cX7_howMany 1 = .ok (.istore_n 1, 1) := by decide +kernel
theorem dX7_howMany_2 : decode cX7_howMany 2 = .ok (.iconst 0, 1) := by decide +kernel
theorem dX7_howMany_3 : decode cX7_howMany 3 = .ok (.istore_n 2, 1) := by decide +kernel
theorem dX7_howMany_4 : decode cX7_howMany 4 = .ok (.iload_n 2, 1) := by decide +kernel
theorem dX7_howMany_5 : decode cX7_howMany 5 = .ok (.iconst 4, 1) := by decide +kernel
theorem dX7_howMany_6 : decode cX7_howMany 6 = .ok (.if_icmp .ge 38, 3) := by decide +kernel
theorem dX7_howMany_9 : decode cX7_howMany 9 = .ok (.iconst 1, 1) := by decide +kernel
theorem dX7_howMany_10 : decode cX7_howMany 10 = .ok (.istore_n 3, 1) := by decide +kernel
theorem dX7_howMany_11 : decode cX7_howMany 11 = .ok (.iload_n 3, 1) := by decide +kernel
theorem dX7_howMany_12 : decode cX7_howMany 12 = .ok (.bipush 9, 2) := by decide +kernel
theorem dX7_howMany_14 : decode cX7_howMany 14 = .ok (.if_icmp .gt 24, 3) := by decide +kernel
theorem dX7_howMany_17 : decode cX7_howMany 17 = .ok (.aload_n 0, 1) := by decide +kernel
theorem dX7_howMany_18 : decode cX7_howMany 18 = .ok (.iload_n 3, 1) := by decide +kernel
theorem dX7_howMany_19 : decode cX7_howMany 19 = .ok (.iload_n 2, 1) := by decide +kernel
theorem dX7_howMany_20 : decode cX7_howMany 20 = .ok (.invokestatic 23, 3) := by decide +kernel
theorem dX7_howMany_23 : decode cX7_howMany 23 = .ok (.invokevirtual 27, 3) := by decide +kernel
theorem dX7_howMany_26 : decode cX7_howMany 26 = .ok (.ifCond .eq 6, 3) := by decide +kernel
theorem dX7_howMany_29 : decode cX7_howMany 29 = .ok (.iinc 1 1, 3) := by decide +kernel
theorem dX7_howMany_32 : decode cX7_howMany 32 = .ok (.iinc 3 1, 3) := by decide +kernel
theorem dX7_howMany_35 : decode cX7_howMany 35 = .ok (.goto (-24), 3) := by decide +kernel
theorem dX7_howMany_38 : decode cX7_howMany 38 = .ok (.iinc 2 1, 3) := by decide +kernel
theorem dX7_howMany_41 : decode cX7_howMany 41 = .ok (.goto (-37), 3) := by decide +kernel
theorem dX7_howMany_44 : decode cX7_howMany 44 = .ok (.iload_n 1, 1) := by decide +kernel
theorem dX7_howMany_45 : decode cX7_howMany 45 = .ok (.ireturn, 1) := by decide +kernel
theorem dX7_first_0 : decode cX7_first 0 = .ok (.iconst 0, 1) := by decide +kernel
theorem dX7_first_1 : decode cX7_first 1 = .ok (.istore_n 1, 1) := by decide +kernel
theorem dX7_first_2 : decode cX7_first 2 = .ok (.iload_n 1, 1) := by decide +kernel
theorem dX7_first_3 : decode cX7_first 3 = .ok (.iconst 4, 1) := by decide +kernel
theorem dX7_first_4 : decode cX7_first 4 = .ok (.if_icmp .ge 42, 3) := by decide +kernel
theorem dX7_first_7 : decode cX7_first 7 = .ok (.iconst 1, 1) := by decide +kernel
theorem dX7_first_8 : decode cX7_first 8 = .ok (.istore_n 2, 1) := by decide +kernel
theorem dX7_first_9 : decode cX7_first 9 = .ok (.iload_n 2, 1) := by decide +kernel
theorem dX7_first_10 : decode cX7_first 10 = .ok (.bipush 9, 2) := by decide +kernel
theorem dX7_first_12 : decode cX7_first 12 = .ok (.if_icmp .gt 28, 3) := by decide +kernel
theorem dX7_first_15 : decode cX7_first 15 = .ok (.aload_n 0, 1) := by decide +kernel
theorem dX7_first_16 : decode cX7_first 16 = .ok (.iload_n 2, 1) := by decide +kernel
theorem dX7_first_17 : decode cX7_first 17 = .ok (.iload_n 1, 1) := by decide +kernel
theorem dX7_first_18 : decode cX7_first 18 = .ok (.invokestatic 23, 3) := by decide +kernel
theorem dX7_first_21 : decode cX7_first 21 = .ok (.invokevirtual 27, 3) := by decide +kernel
theorem dX7_first_24 : decode cX7_first 24 = .ok (.ifCond .eq 10, 3) := by decide +kernel
theorem dX7_first_27 : decode cX7_first 27 = .ok (.bipush 10, 2) := by decide +kernel
theorem dX7_first_29 : decode cX7_first 29 = .ok (.iload_n 1, 1) := by decide +kernel
theorem dX7_first_30 : decode cX7_first 30 = .ok (.imul, 1) := by decide +kernel
theorem dX7_first_31 : decode cX7_first 31 = .ok (.iload_n 2, 1) := by decide +kernel
theorem dX7_first_32 : decode cX7_first 32 = .ok (.iadd, 1) := by decide +kernel
theorem dX7_first_33 : decode cX7_first 33 = .ok (.ireturn, 1) := by decide +kernel
theorem dX7_first_34 : decode cX7_first 34 = .ok (.iinc 2 1, 3) := by decide +kernel
theorem dX7_first_37 : decode cX7_first 37 = .ok (.goto (-28), 3) := by decide +kernel
theorem dX7_first_40 : decode cX7_first 40 = .ok (.iinc 1 1, 3) := by decide +kernel
theorem dX7_first_43 : decode cX7_first 43 = .ok (.goto (-41), 3) := by decide +kernel
theorem dX7_first_46 : decode cX7_first 46 = .ok (.bipush (-9), 2) := by decide +kernel
theorem dX7_first_48 : decode cX7_first 48 = .ok (.ireturn, 1) := by decide +kernel
