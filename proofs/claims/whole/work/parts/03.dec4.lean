theorem dX9_readOneClerk_30 : decode cX9_readOneClerk 30 = .ok (.bipush (-9), 2) := by decide +kernel
theorem dX9_readOneClerk_32 : decode cX9_readOneClerk 32 = .ok (.if_icmp .ne 5, 3) := by decide +kernel
theorem dX9_readOneClerk_35 : decode cX9_readOneClerk 35 = .ok (.iconst 0, 1) := by decide +kernel
theorem dX9_readOneClerk_36 : decode cX9_readOneClerk 36 = .ok (.ireturn, 1) := by decide +kernel
theorem dX9_readOneClerk_37 : decode cX9_readOneClerk 37 = .ok (.aload_n 0, 1) := by decide +kernel
theorem dX9_readOneClerk_38 : decode cX9_readOneClerk 38 = .ok (.getfield 25, 3) := by decide +kernel
theorem dX9_readOneClerk_41 : decode cX9_readOneClerk 41 = .ok (.iconst 2, 1) := by decide +kernel
theorem dX9_readOneClerk_42 : decode cX9_readOneClerk 42 = .ok (.aload_n 0, 1) := by decide +kernel
theorem dX9_readOneClerk_43 : decode cX9_readOneClerk 43 = .ok (.getfield 92, 3) := by decide +kernel
theorem dX9_readOneClerk_46 : decode cX9_readOneClerk 46 = .ok (.imul, 1) := by decide +kernel
theorem dX9_readOneClerk_47 : decode cX9_readOneClerk 47 = .ok (.iload_n 1, 1) := by decide +kernel
theorem dX9_readOneClerk_48 : decode cX9_readOneClerk 48 = .ok (.iastore, 1) := by decide +kernel
theorem dX9_readOneClerk_49 : decode cX9_readOneClerk 49 = .ok (.aload_n 0, 1) := by decide +kernel
theorem dX9_readOneClerk_50 : decode cX9_readOneClerk 50 = .ok (.getfield 25, 3) := by decide +kernel
theorem dX9_readOneClerk_53 : decode cX9_readOneClerk 53 = .ok (.iconst 2, 1) := by decide +kernel
theorem dX9_readOneClerk_54 : decode cX9_readOneClerk 54 = .ok (.aload_n 0, 1) := by decide +kernel
theorem dX9_readOneClerk_55 : decode cX9_readOneClerk 55 = .ok (.getfield 92, 3) := by decide +kernel
theorem dX9_readOneClerk_58 : decode cX9_readOneClerk 58 = .ok (.imul, 1) := by decide +kernel
theorem dX9_readOneClerk_59 : decode cX9_readOneClerk 59 = .ok (.iconst 1, 1) := by decide +kernel
theorem dX9_readOneClerk_60 : decode cX9_readOneClerk 60 = .ok (.iadd, 1) := by decide +kernel
theorem dX9_readOneClerk_61 : decode cX9_readOneClerk 61 = .ok (.iload_n 2, 1) := by decide +kernel
theorem dX9_readOneClerk_62 : decode cX9_readOneClerk 62 = .ok (.iastore, 1) := by decide +kernel
theorem dX9_readOneClerk_63 : decode cX9_readOneClerk 63 = .ok (.aload_n 0, 1) := by decide +kernel
theorem dX9_readOneClerk_64 : decode cX9_readOneClerk 64 = .ok (.dup, 1) := by decide +kernel
theorem dX9_readOneClerk_65 : decode cX9_readOneClerk 65 = .ok (.getfield 92, 3) := by decide +kernel
theorem dX9_readOneClerk_68 : decode cX9_readOneClerk 68 = .ok (.iconst 1, 1) := by decide +kernel
theorem dX9_readOneClerk_69 : decode cX9_readOneClerk 69 = .ok (.iadd, 1) := by decide +kernel
theorem dX9_readOneClerk_70 : decode cX9_readOneClerk 70 = .ok (.putfield 92, 3) := by decide +kernel
theorem dX9_readOneClerk_73 : decode cX9_readOneClerk 73 = .ok (.iconst 1, 1) := by decide +kernel
theorem dX9_readOneClerk_74 : decode cX9_readOneClerk 74 = .ok (.ireturn, 1) := by decide +kernel
theorem dX9_readThing_0 : decode cX9_readThing 0 = .ok (.aload_n 0, 1) := by decide +kernel
theorem dX9_readThing_1 : decode cX9_readThing 1 = .ok (.getfield 7, 3) := by decide +kernel
theorem dX9_readThing_4 : decode cX9_readThing 4 = .ok (.aload_n 0, 1) := by decide +kernel
theorem dX9_readThing_5 : decode cX9_readThing 5 = .ok (.getfield 78, 3) := by decide +kernel
theorem dX9_readThing_8 : decode cX9_readThing 8 = .ok (.iaload, 1) := by decide +kernel
theorem dX9_readThing_9 : decode cX9_readThing 9 = .ok (.istore_n 1, 1) := by decide +kernel
theorem dX9_readThing_10 : decode cX9_readThing 10 = .ok (.aload_n 0, 1) := by decide +kernel
theorem dX9_readThing_11 : decode cX9_readThing 11 = .ok (.dup, 1) := by decide +kernel
theorem dX9_readThing_12 : decode cX9_readThing 12 = .ok (.getfield 78, 3) := by decide +kernel
theorem dX9_readThing_15 : decode cX9_readThing 15 = .ok (.iconst 1, 1) := by decide +kernel
theorem dX9_readThing_16 : decode cX9_readThing 16 = .ok (.iadd, 1) := by decide +kernel
theorem dX9_readThing_17 : decode cX9_readThing 17 = .ok (.putfield 78, 3) := by decide +kernel
theorem dX9_readThing_20 : decode cX9_readThing 20 = .ok (.iload_n 1, 1) := by decide +kernel
theorem dX9_readThing_21 : decode cX9_readThing 21 = .ok (.bipush 76, 2) := by decide +kernel
theorem dX9_readThing_23 : decode cX9_readThing 23 = .ok (.if_icmp .ne 17, 3) := by decide +kernel
theorem dX9_readThing_26 : decode cX9_readThing 26 = .ok (.aload_n 0, 1) := by decide +kernel
theorem dX9_readThing_27 : decode cX9_readThing 27 = .ok (.getfield 81, 3) := by decide +kernel
theorem dX9_readThing_30 : decode cX9_readThing 30 = .ok (.bipush 6, 2) := by decide +kernel
theorem dX9_readThing_32 : decode cX9_readThing 32 = .ok (.if_icmp .ge 8, 3) := by decide +kernel
theorem dX9_readThing_35 : decode cX9_readThing 35 = .ok (.aload_n 0, 1) := by decide +kernel
theorem dX9_readThing_36 : decode cX9_readThing 36 = .ok (.invokevirtual 95, 3) := by decide +kernel
theorem dX9_readThing_39 : decode cX9_readThing 39 = .ok (.ireturn, 1) := by decide +kernel
theorem dX9_readThing_40 : decode cX9_readThing 40 = .ok (.iload_n 1, 1) := by decide +kernel
theorem dX9_readThing_41 : decode cX9_readThing 41 = .ok (.bipush 67, 2) := by decide +kernel
theorem dX9_readThing_43 : decode cX9_readThing 43 = .ok (.if_icmp .ne 16, 3) := by decide +kernel
theorem dX9_readThing_46 : decode cX9_readThing 46 = .ok (.aload_n 0, 1) := by decide +kernel
theorem dX9_readThing_47 : decode cX9_readThing 47 = .ok (.getfield 92, 3) := by decide +kernel
theorem dX9_readThing_50 : decode cX9_readThing 50 = .ok (.iconst 3, 1) := by decide +kernel
theorem dX9_readThing_51 : decode cX9_readThing 51 = .ok (.if_icmp .ge 8, 3) := by decide +kernel
theorem dX9_readThing_54 : decode cX9_readThing 54 = .ok (.aload_n 0, 1) := by decide +kernel
theorem dX9_readThing_55 : decode cX9_readThing 55 = .ok (.invokevirtual 99, 3) := by decide +kernel
theorem dX9_readThing_58 : decode cX9_readThing 58 = .ok (.ireturn, 1) := by decide +kernel
theorem dX9_readThing_59 : decode cX9_readThing 59 = .ok (.aload_n 0, 1) := by decide +kernel
theorem dX9_readThing_60 : decode cX9_readThing 60 = .ok (.dup, 1) := by decide +kernel
theorem dX9_readThing_61 : decode cX9_readThing 61 = .ok (.getfield 78, 3) := by decide +kernel
theorem dX9_readThing_64 : decode cX9_readThing 64 = .ok (.iconst 1, 1) := by decide +kernel
theorem dX9_readThing_65 : decode cX9_readThing 65 = .ok (.isub, 1) := by decide +kernel
theorem dX9_readThing_66 : decode cX9_readThing 66 = .ok (.putfield 78, 3) := by decide +kernel
theorem dX9_readThing_69 : decode cX9_readThing 69 = .ok (.iconst 0, 1) := by decide +kernel
theorem dX9_readThing_70 : decode cX9_readThing 70 = .ok (.ireturn, 1) := by decide +kernel
theorem dX9_readRoom_0 : decode cX9_readRoom 0 = .ok (.aload_n 0, 1) := by decide +kernel
theorem dX9_readRoom_1 : decode cX9_readRoom 1 = .ok (.iconst 0, 1) := by decide +kernel
theorem dX9_readRoom_2 : decode cX9_readRoom 2 = .ok (.putfield 78, 3) := by decide +kernel
theorem dX9_readRoom_5 : decode cX9_readRoom 5 = .ok (.aload_n 0, 1) := by decide +kernel
theorem dX9_readRoom_6 : decode cX9_readRoom 6 = .ok (.iconst 0, 1) := by decide +kernel
theorem dX9_readRoom_7 : decode cX9_readRoom 7 = .ok (.putfield 81, 3) := by decide +kernel
theorem dX9_readRoom_10 : decode cX9_readRoom 10 = .ok (.aload_n 0, 1) := by decide +kernel
theorem dX9_readRoom_11 : decode cX9_readRoom 11 = .ok (.iconst 0, 1) := by decide +kernel
theorem dX9_readRoom_12 : decode cX9_readRoom 12 = .ok (.putfield 92, 3) := by decide +kernel
theorem dX9_readRoom_15 : decode cX9_readRoom 15 = .ok (.aload_n 0, 1) := by decide +kernel
theorem dX9_readRoom_16 : decode cX9_readRoom 16 = .ok (.getfield 75, 3) := by decide +kernel
theorem dX9_readRoom_19 : decode cX9_readRoom 19 = .ok (.ifCond .eq 14, 3) := by decide +kernel
theorem dX9_readRoom_22 : decode cX9_readRoom 22 = .ok (.aload_n 0, 1) := by decide +kernel
theorem dX9_readRoom_23 : decode cX9_readRoom 23 = .ok (.getfield 7, 3) := by decide +kernel
theorem dX9_readRoom_26 : decode cX9_readRoom 26 = .ok (.iconst 0, 1) := by decide +kernel
theorem dX9_readRoom_27 : decode cX9_readRoom 27 = .ok (.iaload, 1) := by decide +kernel
theorem dX9_readRoom_28 : decode cX9_readRoom 28 = .ok (.bipush 77, 2) := by decide +kernel
theorem dX9_readRoom_30 : decode cX9_readRoom 30 = .ok (.if_icmp .eq 5, 3) := by decide +kernel
theorem dX9_readRoom_33 : decode cX9_readRoom 33 = .ok (.iconst 0, 1) := by decide +kernel
theorem dX9_readRoom_34 : decode cX9_readRoom 34 = .ok (.ireturn, 1) := by decide +kernel
theorem dX9_readRoom_35 : decode cX9_readRoom 35 = .ok (.aload_n 0, 1) := by decide +kernel
theorem dX9_readRoom_36 : decode cX9_readRoom 36 = .ok (.iconst 1, 1) := by decide +kernel
theorem dX9_readRoom_37 : decode cX9_readRoom 37 = .ok (.putfield 78, 3) := by decide +kernel
theorem dX9_readRoom_40 : decode cX9_readRoom 40 = .ok (.aload_n 0, 1) := by decide +kernel
theorem dX9_readRoom_41 : decode cX9_readRoom 41 = .ok (.aload_n 0, 1) := by decide +kernel
theorem dX9_readRoom_42 : decode cX9_readRoom 42 = .ok (.bipush 48, 2) := by decide +kernel
theorem dX9_readRoom_44 : decode cX9_readRoom 44 = .ok (.iconst 0, 1) := by decide +kernel
theorem dX9_readRoom_45 : decode cX9_readRoom 45 = .ok (.bipush 9, 2) := by decide +kernel
theorem dX9_readRoom_47 : decode cX9_readRoom 47 = .ok (.invokevirtual 84, 3) := by decide +kernel
theorem dX9_readRoom_50 : decode cX9_readRoom 50 = .ok (.putfield 102, 3) := by decide +kernel
theorem dX9_readRoom_53 : decode cX9_readRoom 53 = .ok (.aload_n 0, 1) := by decide +kernel
theorem dX9_readRoom_54 : decode cX9_readRoom 54 = .ok (.getfield 102, 3) := by decide +kernel
theorem dX9_readRoom_57 : decode cX9_readRoom 57 = .ok (.bipush (-9), 2) := by decide +kernel
theorem dX9_readRoom_59 : decode cX9_readRoom 59 = .ok (.if_icmp .ne 8, 3) := by decide +kernel
theorem dX9_readRoom_62 : decode cX9_readRoom 62 = .ok (.aload_n 0, 1) := by decide +kernel
theorem dX9_readRoom_63 : decode cX9_readRoom 63 = .ok (.getfield 78, 3) := by decide +kernel
theorem dX9_readRoom_66 : decode cX9_readRoom 66 = .ok (.ireturn, 1) := by decide +kernel
theorem dX9_readRoom_67 : decode cX9_readRoom 67 = .ok (.aload_n 0, 1) := by decide +kernel
theorem dX9_readRoom_68 : decode cX9_readRoom 68 = .ok (.getfield 78, 3) := by decide +kernel
theorem dX9_readRoom_71 : decode cX9_readRoom 71 = .ok (.aload_n 0, 1) := by decide +kernel
theorem dX9_readRoom_72 : decode cX9_readRoom 72 = .ok (.getfield 75, 3) := by decide +kernel
theorem dX9_readRoom_75 : decode cX9_readRoom 75 = .ok (.if_icmp .ge 15, 3) := by decide +kernel
theorem dX9_readRoom_78 : decode cX9_readRoom 78 = .ok (.aload_n 0, 1) := by decide +kernel
theorem dX9_readRoom_79 : decode cX9_readRoom 79 = .ok (.invokevirtual 105, 3) := by decide +kernel
theorem dX9_readRoom_82 : decode cX9_readRoom 82 = .ok (.ifCond .ne (-15), 3) := by decide +kernel
theorem dX9_readRoom_85 : decode cX9_readRoom 85 = .ok (.aload_n 0, 1) := by decide +kernel
theorem dX9_readRoom_86 : decode cX9_readRoom 86 = .ok (.getfield 78, 3) := by decide +kernel
theorem dX9_readRoom_89 : decode cX9_readRoom 89 = .ok (.ireturn, 1) := by decide +kernel
theorem dX9_readRoom_90 : decode cX9_readRoom 90 = .ok (.bipush (-9), 2) := by decide +kernel
theorem dX9_readRoom_92 : decode cX9_readRoom 92 = .ok (.ireturn, 1) := by decide +kernel
theorem dX9_fault_0 : decode cX9_fault 0 = .ok (.aload_n 0, 1) := by decide +kernel
theorem dX9_fault_1 : decode cX9_fault 1 = .ok (.iconst 0, 1) := by decide +kernel
theorem dX9_fault_2 : decode cX9_fault 2 = .ok (.putfield 59, 3) := by decide +kernel
theorem dX9_fault_5 : decode cX9_fault 5 = .ok (.aload_n 0, 1) := by decide +kernel
theorem dX9_fault_6 : decode cX9_fault 6 = .ok (.invokevirtual 108, 3) := by decide +kernel
theorem dX9_fault_9 : decode cX9_fault 9 = .ok (.ireturn, 1) := by decide +kernel
theorem dX9_room_0 : decode cX9_room 0 = .ok (.aload_n 0, 1) := by decide +kernel
theorem dX9_room_1 : decode cX9_room 1 = .ok (.iconst 0, 1) := by decide +kernel
theorem dX9_room_2 : decode cX9_room 2 = .ok (.putfield 59, 3) := by decide +kernel
theorem dX9_room_5 : decode cX9_room 5 = .ok (.aload_n 0, 1) := by decide +kernel
theorem dX9_room_6 : decode cX9_room 6 = .ok (.invokevirtual 108, 3) := by decide +kernel
theorem dX9_room_9 : decode cX9_room 9 = .ok (.bipush (-9), 2) := by decide +kernel
theorem dX9_room_11 : decode cX9_room 11 = .ok (.if_icmp .eq 6, 3) := by decide +kernel
theorem dX9_room_14 : decode cX9_room 14 = .ok (.bipush (-3), 2) := by decide +kernel
theorem dX9_room_16 : decode cX9_room 16 = .ok (.ireturn, 1) := by decide +kernel
theorem dX9_room_17 : decode cX9_room 17 = .ok (.aload_n 0, 1) := by decide +kernel
theorem dX9_room_18 : decode cX9_room 18 = .ok (.aload_n 0, 1) := by decide +kernel
theorem dX9_room_19 : decode cX9_room 19 = .ok (.getfield 81, 3) := by decide +kernel
theorem dX9_room_22 : decode cX9_room 22 = .ok (.putfield 63, 3) := by decide +kernel
theorem dX9_room_25 : decode cX9_room 25 = .ok (.aload_n 0, 1) := by decide +kernel
theorem dX9_room_26 : decode cX9_room 26 = .ok (.aload_n 0, 1) := by decide +kernel
theorem dX9_room_27 : decode cX9_room 27 = .ok (.getfield 92, 3) := by decide +kernel
theorem dX9_room_30 : decode cX9_room 30 = .ok (.putfield 70, 3) := by decide +kernel
theorem dX9_room_33 : decode cX9_room 33 = .ok (.iconst 0, 1) := by decide +kernel
theorem dX9_room_34 : decode cX9_room 34 = .ok (.istore_n 1, 1) := by decide +kernel
theorem dX9_room_35 : decode cX9_room 35 = .ok (.iload_n 1, 1) := by decide +kernel
theorem dX9_room_36 : decode cX9_room 36 = .ok (.bipush 23, 2) := by decide +kernel
theorem dX9_room_38 : decode cX9_room 38 = .ok (.if_icmp .ge 16, 3) := by decide +kernel
theorem dX9_room_41 : decode cX9_room 41 = .ok (.aload_n 0, 1) := by decide +kernel
theorem dX9_room_42 : decode cX9_room 42 = .ok (.getfield 28, 3) := by decide +kernel
theorem dX9_room_45 : decode cX9_room 45 = .ok (.iload_n 1, 1) := by decide +kernel
theorem dX9_room_46 : decode cX9_room 46 = .ok (.iconst 0, 1) := by decide +kernel
theorem dX9_room_47 : decode cX9_room 47 = .ok (.iastore, 1) := by decide +kernel
theorem dX9_room_48 : decode cX9_room 48 = .ok (.iinc 1 1, 3) := by decide +kernel
theorem dX9_room_51 : decode cX9_room 51 = .ok (.goto (-16), 3) := by decide +kernel
theorem dX9_room_54 : decode cX9_room 54 = .ok (.iconst 0, 1) := by decide +kernel
theorem dX9_room_55 : decode cX9_room 55 = .ok (.istore_n 1, 1) := by decide +kernel
theorem dX9_room_56 : decode cX9_room 56 = .ok (.iload_n 1, 1) := by decide +kernel
theorem dX9_room_57 : decode cX9_room 57 = .ok (.aload_n 0, 1) := by decide +kernel
theorem dX9_room_58 : decode cX9_room 58 = .ok (.getfield 63, 3) := by decide +kernel
theorem dX9_room_61 : decode cX9_room 61 = .ok (.if_icmp .ge 55, 3) := by decide +kernel
theorem dX9_room_64 : decode cX9_room 64 = .ok (.aload_n 0, 1) := by decide +kernel
theorem dX9_room_65 : decode cX9_room 65 = .ok (.getfield 28, 3) := by decide +kernel
theorem dX9_room_68 : decode cX9_room 68 = .ok (.iload_n 1, 1) := by decide +kernel
theorem dX9_room_69 : decode cX9_room 69 = .ok (.aload_n 0, 1) := by decide +kernel
theorem dX9_room_70 : decode cX9_room 70 = .ok (.getfield 22, 3) := by decide +kernel
theorem dX9_room_73 : decode cX9_room 73 = .ok (.iconst 3, 1) := by decide +kernel
theorem dX9_room_74 : decode cX9_room 74 = .ok (.iload_n 1, 1) := by decide +kernel
theorem dX9_room_75 : decode cX9_room 75 = .ok (.imul, 1) := by decide +kernel
theorem dX9_room_76 : decode cX9_room 76 = .ok (.iaload, 1) := by decide +kernel
theorem dX9_room_77 : decode cX9_room 77 = .ok (.iastore, 1) := by decide +kernel
theorem dX9_room_78 : decode cX9_room 78 = .ok (.aload_n 0, 1) := by decide +kernel
theorem dX9_room_79 : decode cX9_room 79 = .ok (.getfield 13, 3) := by decide +kernel
theorem dX9_room_82 : decode cX9_room 82 = .ok (.iload_n 1, 1) := by decide +kernel
theorem dX9_room_83 : decode cX9_room 83 = .ok (.aload_n 0, 1) := by decide +kernel
theorem dX9_room_84 : decode cX9_room 84 = .ok (.getfield 22, 3) := by decide +kernel
theorem dX9_room_87 : decode cX9_room 87 = .ok (.iconst 3, 1) := by decide +kernel
theorem dX9_room_88 : decode cX9_room 88 = .ok (.iload_n 1, 1) := by decide +kernel
theorem dX9_room_89 : decode cX9_room 89 = .ok (.imul, 1) := by decide +kernel
theorem dX9_room_90 : decode cX9_room 90 = .ok (.iconst 1, 1) := by decide +kernel
theorem dX9_room_91 : decode cX9_room 91 = .ok (.iadd, 1) := by decide +kernel
theorem dX9_room_92 : decode cX9_room 92 = .ok (.iaload, 1) := by decide +kernel
theorem dX9_room_93 : decode cX9_room 93 = .ok (.iastore, 1) := by decide +kernel
theorem dX9_room_94 : decode cX9_room 94 = .ok (.aload_n 0, 1) := by decide +kernel
theorem dX9_room_95 : decode cX9_room 95 = .ok (.getfield 16, 3) := by decide +kernel
theorem dX9_room_98 : decode cX9_room 98 = .ok (.iload_n 1, 1) := by decide +kernel
theorem dX9_room_99 : decode cX9_room 99 = .ok (.aload_n 0, 1) := by decide +kernel
theorem dX9_room_100 : decode cX9_room 100 = .ok (.getfield 22, 3) := by decide +kernel
theorem dX9_room_103 : decode cX9_room 103 = .ok (.iconst 3, 1) := by decide +kernel
theorem dX9_room_104 : decode cX9_room 104 = .ok (.iload_n 1, 1) := by decide +kernel
theorem dX9_room_105 : decode cX9_room 105 = .ok (.imul, 1) := by decide +kernel
theorem dX9_room_106 : decode cX9_room 106 = .ok (.iconst 2, 1) := by decide +kernel
theorem dX9_room_107 : decode cX9_room 107 = .ok (.iadd, 1) := by decide +kernel
theorem dX9_room_108 : decode cX9_room 108 = .ok (.iaload, 1) := by decide +kernel
theorem dX9_room_109 : decode cX9_room 109 = .ok (.iastore, 1) := by decide +kernel
theorem dX9_room_110 : decode cX9_room 110 = .ok (.iinc 1 1, 3) := by decide +kernel
theorem dX9_room_113 : decode cX9_room 113 = .ok (.goto (-57), 3) := by decide +kernel
theorem dX9_room_116 : decode cX9_room 116 = .ok (.iconst 0, 1) := by decide +kernel
theorem dX9_room_117 : decode cX9_room 117 = .ok (.istore_n 1, 1) := by decide +kernel
theorem dX9_room_118 : decode cX9_room 118 = .ok (.iload_n 1, 1) := by decide +kernel
theorem dX9_room_119 : decode cX9_room 119 = .ok (.aload_n 0, 1) := by decide +kernel
theorem dX9_room_120 : decode cX9_room 120 = .ok (.getfield 70, 3) := by decide +kernel
theorem dX9_room_123 : decode cX9_room 123 = .ok (.if_icmp .ge 42, 3) := by decide +kernel
theorem dX9_room_126 : decode cX9_room 126 = .ok (.aload_n 0, 1) := by decide +kernel
theorem dX9_room_127 : decode cX9_room 127 = .ok (.getfield 28, 3) := by decide +kernel
theorem dX9_room_130 : decode cX9_room 130 = .ok (.bipush 18, 2) := by decide +kernel
theorem dX9_room_132 : decode cX9_room 132 = .ok (.iload_n 1, 1) := by decide +kernel
theorem dX9_room_133 : decode cX9_room 133 = .ok (.iadd, 1) := by decide +kernel
theorem dX9_room_134 : decode cX9_room 134 = .ok (.aload_n 0, 1) := by decide +kernel
theorem dX9_room_135 : decode cX9_room 135 = .ok (.getfield 25, 3) := by decide +kernel
theorem dX9_room_138 : decode cX9_room 138 = .ok (.iconst 2, 1) := by decide +kernel
theorem dX9_room_139 : decode cX9_room 139 = .ok (.iload_n 1, 1) := by decide +kernel
theorem dX9_room_140 : decode cX9_room 140 = .ok (.imul, 1) := by decide +kernel
theorem dX9_room_141 : decode cX9_room 141 = .ok (.iaload, 1) := by decide +kernel
theorem dX9_room_142 : decode cX9_room 142 = .ok (.iastore, 1) := by decide +kernel
theorem dX9_room_143 : decode cX9_room 143 = .ok (.aload_n 0, 1) := by decide +kernel
theorem dX9_room_144 : decode cX9_room 144 = .ok (.getfield 19, 3) := by decide +kernel
theorem dX9_room_147 : decode cX9_room 147 = .ok (.iload_n 1, 1) := by decide +kernel
theorem dX9_room_148 : decode cX9_room 148 = .ok (.aload_n 0, 1) := by decide +kernel
theorem dX9_room_149 : decode cX9_room 149 = .ok (.getfield 25, 3) := by decide +kernel
theorem dX9_room_152 : decode cX9_room 152 = .ok (.iconst 2, 1) := by decide +kernel
theorem dX9_room_153 : decode cX9_room 153 = .ok (.iload_n 1, 1) := by decide +kernel
theorem dX9_room_154 : decode cX9_room 154 = .ok (.imul, 1) := by decide +kernel
theorem dX9_room_155 : decode cX9_room 155 = .ok (.iconst 1, 1) := by decide +kernel
theorem dX9_room_156 : decode cX9_room 156 = .ok (.iadd, 1) := by decide +kernel
theorem dX9_room_157 : decode cX9_room 157 = .ok (.iaload, 1) := by decide +kernel
theorem dX9_room_158 : decode cX9_room 158 = .ok (.iastore, 1) := by decide +kernel
theorem dX9_room_159 : decode cX9_room 159 = .ok (.iinc 1 1, 3) := by decide +kernel
theorem dX9_room_162 : decode cX9_room 162 = .ok (.goto (-44), 3) := by decide +kernel
theorem dX9_room_165 : decode cX9_room 165 = .ok (.aload_n 0, 1) := by decide +kernel
theorem dX9_room_166 : decode cX9_room 166 = .ok (.getfield 28, 3) := by decide +kernel
theorem dX9_room_169 : decode cX9_room 169 = .ok (.bipush 21, 2) := by decide +kernel
theorem dX9_room_171 : decode cX9_room 171 = .ok (.aload_n 0, 1) := by decide +kernel
theorem dX9_room_172 : decode cX9_room 172 = .ok (.getfield 102, 3) := by decide +kernel
theorem dX9_room_175 : decode cX9_room 175 = .ok (.iastore, 1) := by decide +kernel
theorem dX9_room_176 : decode cX9_room 176 = .ok (.aload_n 0, 1) := by decide +kernel
theorem dX9_room_177 : decode cX9_room 177 = .ok (.iconst 0, 1) := by decide +kernel
theorem dX9_room_178 : decode cX9_room 178 = .ok (.putfield 112, 3) := by decide +kernel
theorem dX9_room_181 : decode cX9_room 181 = .ok (.aload_n 0, 1) := by decide +kernel
theorem dX9_room_182 : decode cX9_room 182 = .ok (.getfield 40, 3) := by decide +kernel
theorem dX9_room_185 : decode cX9_room 185 = .ok (.iconst 0, 1) := by decide +kernel
theorem dX9_room_186 : decode cX9_room 186 = .ok (.iconst 0, 1) := by decide +kernel
theorem dX9_room_187 : decode cX9_room 187 = .ok (.bastore, 1) := by decide +kernel
theorem dX9_room_188 : decode cX9_room 188 = .ok (.aload_n 0, 1) := by decide +kernel
theorem dX9_room_189 : decode cX9_room 189 = .ok (.getfield 40, 3) := by decide +kernel
theorem dX9_room_192 : decode cX9_room 192 = .ok (.iconst 1, 1) := by decide +kernel
theorem dX9_room_193 : decode cX9_room 193 = .ok (.iconst 0, 1) := by decide +kernel
theorem dX9_room_194 : decode cX9_room 194 = .ok (.bastore, 1) := by decide +kernel
theorem dX9_room_195 : decode cX9_room 195 = .ok (.bipush 10, 2) := by decide +kernel
theorem dX9_room_197 : decode cX9_room 197 = .ok (.aload_n 0, 1) := by decide +kernel
theorem dX9_room_198 : decode cX9_room 198 = .ok (.getfield 63, 3) := by decide +kernel
theorem dX9_room_201 : decode cX9_room 201 = .ok (.imul, 1) := by decide +kernel
theorem dX9_room_202 : decode cX9_room 202 = .ok (.aload_n 0, 1) := by decide +kernel
theorem dX9_room_203 : decode cX9_room 203 = .ok (.getfield 70, 3) := by decide +kernel
theorem dX9_room_206 : decode cX9_room 206 = .ok (.iadd, 1) := by decide +kernel
theorem dX9_room_207 : decode cX9_room 207 = .ok (.ireturn, 1) := by decide +kernel
theorem dX9_halfOf_0 : decode cX9_halfOf 0 = .ok (.iload_n 0, 1) := by decide +kernel
theorem dX9_halfOf_1 : decode cX9_halfOf 1 = .ok (.iconst 2, 1) := by decide +kernel
theorem dX9_halfOf_2 : decode cX9_halfOf 2 = .ok (.if_icmp .ge 7, 3) := by decide +kernel
theorem dX9_halfOf_5 : decode cX9_halfOf 5 = .ok (.iconst 1, 1) := by decide +kernel
theorem dX9_halfOf_6 : decode cX9_halfOf 6 = .ok (.goto 6, 3) := by decide +kernel
theorem dX9_halfOf_9 : decode cX9_halfOf 9 = .ok (.iload_n 0, 1) := by decide +kernel
theorem dX9_halfOf_10 : decode cX9_halfOf 10 = .ok (.iconst 2, 1) := by decide +kernel
theorem dX9_halfOf_11 : decode cX9_halfOf 11 = .ok (.idiv, 1) := by decide +kernel
theorem dX9_halfOf_12 : decode cX9_halfOf 12 = .ok (.ireturn, 1) := by decide +kernel
theorem dX9_needs_0 : decode cX9_needs 0 = .ok (.aload_n 0, 1) := by decide +kernel
theorem dX9_needs_1 : decode cX9_needs 1 = .ok (.getfield 16, 3) := by decide +kernel
theorem dX9_needs_4 : decode cX9_needs 4 = .ok (.iload_n 2, 1) := by decide +kernel
theorem dX9_needs_5 : decode cX9_needs 5 = .ok (.iaload, 1) := by decide +kernel
theorem dX9_needs_6 : decode cX9_needs 6 = .ok (.iconst 2, 1) := by decide +kernel
theorem dX9_needs_7 : decode cX9_needs 7 = .ok (.if_icmp .ne 13, 3) := by decide +kernel
theorem dX9_needs_10 : decode cX9_needs 10 = .ok (.aload_n 0, 1) := by decide +kernel
theorem dX9_needs_11 : decode cX9_needs 11 = .ok (.getfield 13, 3) := by decide +kernel
theorem dX9_needs_14 : decode cX9_needs 14 = .ok (.iload_n 2, 1) := by decide +kernel
theorem dX9_needs_15 : decode cX9_needs 15 = .ok (.iaload, 1) := by decide +kernel
theorem dX9_needs_16 : decode cX9_needs 16 = .ok (.invokestatic 115, 3) := by decide +kernel
theorem dX9_needs_19 : decode cX9_needs 19 = .ok (.ireturn, 1) := by decide +kernel
theorem dX9_needs_20 : decode cX9_needs 20 = .ok (.aload_n 0, 1) := by decide +kernel
theorem dX9_needs_21 : decode cX9_needs 21 = .ok (.getfield 13, 3) := by decide +kernel
theorem dX9_needs_24 : decode cX9_needs 24 = .ok (.iload_n 2, 1) := by decide +kernel
theorem dX9_needs_25 : decode cX9_needs 25 = .ok (.iaload, 1) := by decide +kernel
theorem dX9_needs_26 : decode cX9_needs 26 = .ok (.istore_n 3, 1) := by decide +kernel
theorem dX9_needs_27 : decode cX9_needs 27 = .ok (.iconst 0, 1) := by decide +kernel
theorem dX9_needs_28 : decode cX9_needs 28 = .ok (.istore 4, 2) := by decide +kernel
theorem dX9_needs_30 : decode cX9_needs 30 = .ok (.iload 4, 2) := by decide +kernel
theorem dX9_needs_32 : decode cX9_needs 32 = .ok (.aload_n 0, 1) := by decide +kernel
theorem dX9_needs_33 : decode cX9_needs 33 = .ok (.getfield 63, 3) := by decide +kernel
theorem dX9_needs_36 : decode cX9_needs 36 = .ok (.if_icmp .ge 53, 3) := by decide +kernel
theorem dX9_needs_39 : decode cX9_needs 39 = .ok (.aload_n 0, 1) := by decide +kernel
theorem dX9_needs_40 : decode cX9_needs 40 = .ok (.getfield 16, 3) := by decide +kernel
theorem dX9_needs_43 : decode cX9_needs 43 = .ok (.iload_n 2, 1) := by decide +kernel
theorem dX9_needs_44 : decode cX9_needs 44 = .ok (.iaload, 1) := by decide +kernel
theorem dX9_needs_45 : decode cX9_needs 45 = .ok (.iconst 3, 1) := by decide +kernel
theorem dX9_needs_46 : decode cX9_needs 46 = .ok (.if_icmp .ne 43, 3) := by decide +kernel
theorem dX9_needs_49 : decode cX9_needs 49 = .ok (.iload_n 3, 1) := by decide +kernel
theorem dX9_needs_50 : decode cX9_needs 50 = .ok (.iload 4, 2) := by decide +kernel
theorem dX9_needs_52 : decode cX9_needs 52 = .ok (.iload_n 2, 1) := by decide +kernel
theorem dX9_needs_53 : decode cX9_needs 53 = .ok (.if_icmp .eq 27, 3) := by decide +kernel
theorem dX9_needs_56 : decode cX9_needs 56 = .ok (.aload_n 1, 1) := by decide +kernel
theorem dX9_needs_57 : decode cX9_needs 57 = .ok (.bipush 6, 2) := by decide +kernel
theorem dX9_needs_59 : decode cX9_needs 59 = .ok (.iload 4, 2) := by decide +kernel
theorem dX9_needs_61 : decode cX9_needs 61 = .ok (.iadd, 1) := by decide +kernel
theorem dX9_needs_62 : decode cX9_needs 62 = .ok (.iaload, 1) := by decide +kernel
theorem dX9_needs_63 : decode cX9_needs 63 = .ok (.ifCond .ne 17, 3) := by decide +kernel
theorem dX9_needs_66 : decode cX9_needs 66 = .ok (.aload_n 1, 1) := by decide +kernel
theorem dX9_needs_67 : decode cX9_needs 67 = .ok (.iload 4, 2) := by decide +kernel
theorem dX9_needs_69 : decode cX9_needs 69 = .ok (.iaload, 1) := by decide +kernel
theorem dX9_needs_70 : decode cX9_needs 70 = .ok (.aload_n 1, 1) := by decide +kernel
theorem dX9_needs_71 : decode cX9_needs 71 = .ok (.iload_n 2, 1) := by decide +kernel
theorem dX9_needs_72 : decode cX9_needs 72 = .ok (.iaload, 1) := by decide +kernel
theorem dX9_needs_73 : decode cX9_needs 73 = .ok (.if_icmp .ne 7, 3) := by decide +kernel
theorem dX9_needs_76 : decode cX9_needs 76 = .ok (.iconst 1, 1) := by decide +kernel
theorem dX9_needs_77 : decode cX9_needs 77 = .ok (.goto 4, 3) := by decide +kernel
theorem dX9_needs_80 : decode cX9_needs 80 = .ok (.iconst 0, 1) := by decide +kernel
theorem dX9_needs_81 : decode cX9_needs 81 = .ok (.iadd, 1) := by decide +kernel
theorem dX9_needs_82 : decode cX9_needs 82 = .ok (.istore_n 3, 1) := by decide +kernel
theorem dX9_needs_83 : decode cX9_needs 83 = .ok (.iinc 4 1, 3) := by decide +kernel
theorem dX9_needs_86 : decode cX9_needs 86 = .ok (.goto (-56), 3) := by decide +kernel
theorem dX9_needs_89 : decode cX9_needs 89 = .ok (.iload_n 3, 1) := by decide +kernel
theorem dX9_needs_90 : decode cX9_needs 90 = .ok (.ireturn, 1) := by decide +kernel
theorem dX9_toWait_0 : decode cX9_toWait 0 = .ok (.aload_n 0, 1) := by decide +kernel
theorem dX9_toWait_1 : decode cX9_toWait 1 = .ok (.aload_n 1, 1) := by decide +kernel
theorem dX9_toWait_2 : decode cX9_toWait 2 = .ok (.iload_n 2, 1) := by decide +kernel
theorem dX9_toWait_3 : decode cX9_toWait 3 = .ok (.invokevirtual 118, 3) := by decide +kernel
theorem dX9_toWait_6 : decode cX9_toWait 6 = .ok (.aload_n 1, 1) := by decide +kernel
theorem dX9_toWait_7 : decode cX9_toWait 7 = .ok (.bipush 12, 2) := by decide +kernel
theorem dX9_toWait_9 : decode cX9_toWait 9 = .ok (.iload_n 2, 1) := by decide +kernel
theorem dX9_toWait_10 : decode cX9_toWait 10 = .ok (.iadd, 1) := by decide +kernel
theorem dX9_toWait_11 : decode cX9_toWait 11 = .ok (.iaload, 1) := by decide +kernel
theorem dX9_toWait_12 : decode cX9_toWait 12 = .ok (.isub, 1) := by decide +kernel
theorem dX9_toWait_13 : decode cX9_toWait 13 = .ok (.istore_n 3, 1) := by decide +kernel
theorem dX9_toWait_14 : decode cX9_toWait 14 = .ok (.iload_n 3, 1) := by decide +kernel
theorem dX9_toWait_15 : decode cX9_toWait 15 = .ok (.ifCond .ge 7, 3) := by decide +kernel
theorem dX9_toWait_18 : decode cX9_toWait 18 = .ok (.iconst 0, 1) := by decide +kernel
theorem dX9_toWait_19 : decode cX9_toWait 19 = .ok (.goto 4, 3) := by decide +kernel
theorem dX9_toWait_22 : decode cX9_toWait 22 = .ok (.iload_n 3, 1) := by decide +kernel
theorem dX9_toWait_23 : decode cX9_toWait 23 = .ok (.ireturn, 1) := by decide +kernel
theorem dX9_thatAre_0 : decode cX9_thatAre 0 = .ok (.iconst 0, 1) := by decide +kernel
theorem dX9_thatAre_1 : decode cX9_thatAre 1 = .ok (.istore_n 3, 1) := by decide +kernel
theorem dX9_thatAre_2 : decode cX9_thatAre 2 = .ok (.iconst 0, 1) := by decide +kernel
theorem dX9_thatAre_3 : decode cX9_thatAre 3 = .ok (.istore 4, 2) := by decide +kernel
theorem dX9_thatAre_5 : decode cX9_thatAre 5 = .ok (.iload 4, 2) := by decide +kernel
theorem dX9_thatAre_7 : decode cX9_thatAre 7 = .ok (.aload_n 0, 1) := by decide +kernel
theorem dX9_thatAre_8 : decode cX9_thatAre 8 = .ok (.getfield 63, 3) := by decide +kernel
theorem dX9_thatAre_11 : decode cX9_thatAre 11 = .ok (.if_icmp .ge 31, 3) := by decide +kernel
theorem dX9_thatAre_14 : decode cX9_thatAre 14 = .ok (.iload_n 3, 1) := by decide +kernel
theorem dX9_thatAre_15 : decode cX9_thatAre 15 = .ok (.aload_n 1, 1) := by decide +kernel
theorem dX9_thatAre_16 : decode cX9_thatAre 16 = .ok (.bipush 6, 2) := by decide +kernel
theorem dX9_thatAre_18 : decode cX9_thatAre 18 = .ok (.iload 4, 2) := by decide +kernel
theorem dX9_thatAre_20 : decode cX9_thatAre 20 = .ok (.iadd, 1) := by decide +kernel
theorem dX9_thatAre_21 : decode cX9_thatAre 21 = .ok (.iaload, 1) := by decide +kernel
theorem dX9_thatAre_22 : decode cX9_thatAre 22 = .ok (.iload_n 2, 1) := by decide +kernel
theorem dX9_thatAre_23 : decode cX9_thatAre 23 = .ok (.if_icmp .ne 10, 3) := by decide +kernel
theorem dX9_thatAre_26 : decode cX9_thatAre 26 = .ok (.iconst 1, 1) := by decide +kernel
theorem dX9_thatAre_27 : decode cX9_thatAre 27 = .ok (.iload 4, 2) := by decide +kernel
theorem dX9_thatAre_29 : decode cX9_thatAre 29 = .ok (.ishl, 1) := by decide +kernel
theorem dX9_thatAre_30 : decode cX9_thatAre 30 = .ok (.goto 4, 3) := by decide +kernel
theorem dX9_thatAre_33 : decode cX9_thatAre 33 = .ok (.iconst 0, 1) := by decide +kernel
theorem dX9_thatAre_34 : decode cX9_thatAre 34 = .ok (.ior, 1) := by decide +kernel
theorem dX9_thatAre_35 : decode cX9_thatAre 35 = .ok (.istore_n 3, 1) := by decide +kernel
theorem dX9_thatAre_36 : decode cX9_thatAre 36 = .ok (.iinc 4 1, 3) := by decide +kernel
theorem dX9_thatAre_39 : decode cX9_thatAre 39 = .ok (.goto (-34), 3) := by decide +kernel
theorem dX9_thatAre_42 : decode cX9_thatAre 42 = .ok (.iload_n 3, 1) := by decide +kernel
theorem dX9_thatAre_43 : decode cX9_thatAre 43 = .ok (.ireturn, 1) := by decide +kernel
theorem dX9_lost_0 : decode cX9_lost 0 = .ok (.aload_n 0, 1) := by decide +kernel
theorem dX9_lost_1 : decode cX9_lost 1 = .ok (.aload_n 1, 1) := by decide +kernel
theorem dX9_lost_2 : decode cX9_lost 2 = .ok (.iconst 2, 1) := by decide +kernel
theorem dX9_lost_3 : decode cX9_lost 3 = .ok (.invokevirtual 122, 3) := by decide +kernel
theorem dX9_lost_6 : decode cX9_lost 6 = .ok (.aload_n 0, 1) := by decide +kernel
theorem dX9_lost_7 : decode cX9_lost 7 = .ok (.aload_n 1, 1) := by decide +kernel
theorem dX9_lost_8 : decode cX9_lost 8 = .ok (.iconst 3, 1) := by decide +kernel
theorem dX9_lost_9 : decode cX9_lost 9 = .ok (.invokevirtual 122, 3) := by decide +kernel
theorem dX9_lost_12 : decode cX9_lost 12 = .ok (.ior, 1) := by decide +kernel
theorem dX9_lost_13 : decode cX9_lost 13 = .ok (.ireturn, 1) := by decide +kernel
theorem dX9_inHole_0 : decode cX9_inHole 0 = .ok (.iconst 0, 1) := by decide +kernel
theorem dX9_inHole_1 : decode cX9_inHole 1 = .ok (.istore_n 3, 1) := by decide +kernel
theorem dX9_inHole_2 : decode cX9_inHole 2 = .ok (.iconst 0, 1) := by decide +kernel
theorem dX9_inHole_3 : decode cX9_inHole 3 = .ok (.istore 4, 2) := by decide +kernel
theorem dX9_inHole_5 : decode cX9_inHole 5 = .ok (.iload 4, 2) := by decide +kernel
theorem dX9_inHole_7 : decode cX9_inHole 7 = .ok (.aload_n 0, 1) := by decide +kernel
theorem dX9_inHole_8 : decode cX9_inHole 8 = .ok (.getfield 63, 3) := by decide +kernel
theorem dX9_inHole_11 : decode cX9_inHole 11 = .ok (.if_icmp .ge 61, 3) := by decide +kernel
theorem dX9_inHole_14 : decode cX9_inHole 14 = .ok (.aload_n 1, 1) := by decide +kernel
theorem dX9_inHole_15 : decode cX9_inHole 15 = .ok (.bipush 6, 2) := by decide +kernel
theorem dX9_inHole_17 : decode cX9_inHole 17 = .ok (.iload 4, 2) := by decide +kernel
theorem dX9_inHole_19 : decode cX9_inHole 19 = .ok (.iadd, 1) := by decide +kernel
theorem dX9_inHole_20 : decode cX9_inHole 20 = .ok (.iaload, 1) := by decide +kernel
theorem dX9_inHole_21 : decode cX9_inHole 21 = .ok (.ifCond .eq 14, 3) := by decide +kernel
theorem dX9_inHole_24 : decode cX9_inHole 24 = .ok (.aload_n 1, 1) := by decide +kernel
theorem dX9_inHole_25 : decode cX9_inHole 25 = .ok (.bipush 6, 2) := by decide +kernel
theorem dX9_inHole_27 : decode cX9_inHole 27 = .ok (.iload 4, 2) := by decide +kernel
theorem dX9_inHole_29 : decode cX9_inHole 29 = .ok (.iadd, 1) := by decide +kernel
theorem dX9_inHole_30 : decode cX9_inHole 30 = .ok (.iaload, 1) := by decide +kernel
theorem dX9_inHole_31 : decode cX9_inHole 31 = .ok (.iconst 2, 1) := by decide +kernel
theorem dX9_inHole_32 : decode cX9_inHole 32 = .ok (.if_icmp .ne 7, 3) := by decide +kernel
theorem dX9_inHole_35 : decode cX9_inHole 35 = .ok (.iconst 1, 1) := by decide +kernel
theorem dX9_inHole_36 : decode cX9_inHole 36 = .ok (.goto 4, 3) := by decide +kernel
theorem dX9_inHole_39 : decode cX9_inHole 39 = .ok (.iconst 0, 1) := by decide +kernel
theorem dX9_inHole_40 : decode cX9_inHole 40 = .ok (.istore 5, 2) := by decide +kernel
theorem dX9_inHole_42 : decode cX9_inHole 42 = .ok (.iload_n 3, 1) := by decide +kernel
theorem dX9_inHole_43 : decode cX9_inHole 43 = .ok (.iload 5, 2) := by decide +kernel
theorem dX9_inHole_45 : decode cX9_inHole 45 = .ok (.ifCond .eq 18, 3) := by decide +kernel
theorem dX9_inHole_48 : decode cX9_inHole 48 = .ok (.aload_n 1, 1) := by decide +kernel
theorem dX9_inHole_49 : decode cX9_inHole 49 = .ok (.iload 4, 2) := by decide +kernel
theorem dX9_inHole_51 : decode cX9_inHole 51 = .ok (.iaload, 1) := by decide +kernel
theorem dX9_inHole_52 : decode cX9_inHole 52 = .ok (.iload_n 2, 1) := by decide +kernel
theorem dX9_inHole_53 : decode cX9_inHole 53 = .ok (.if_icmp .ne 10, 3) := by decide +kernel
theorem dX9_inHole_56 : decode cX9_inHole 56 = .ok (.iconst 1, 1) := by decide +kernel
theorem dX9_inHole_57 : decode cX9_inHole 57 = .ok (.iload 4, 2) := by decide +kernel
theorem dX9_inHole_59 : decode cX9_inHole 59 = .ok (.ishl, 1) := by decide +kernel
theorem dX9_inHole_60 : decode cX9_inHole 60 = .ok (.goto 4, 3) := by decide +kernel
theorem dX9_inHole_63 : decode cX9_inHole 63 = .ok (.iconst 0, 1) := by decide +kernel
theorem dX9_inHole_64 : decode cX9_inHole 64 = .ok (.ior, 1) := by decide +kernel
theorem dX9_inHole_65 : decode cX9_inHole 65 = .ok (.istore_n 3, 1) := by decide +kernel
theorem dX9_inHole_66 : decode cX9_inHole 66 = .ok (.iinc 4 1, 3) := by decide +kernel
theorem dX9_inHole_69 : decode cX9_inHole 69 = .ok (.goto (-64), 3) := by decide +kernel
theorem dX9_inHole_72 : decode cX9_inHole 72 = .ok (.iload_n 3, 1) := by decide +kernel
theorem dX9_inHole_73 : decode cX9_inHole 73 = .ok (.ireturn, 1) := by decide +kernel
theorem dX9_pairs_0 : decode cX9_pairs 0 = .ok (.iconst 0, 1) := by decide +kernel
theorem dX9_pairs_1 : decode cX9_pairs 1 = .ok (.istore_n 1, 1) := by decide +kernel
theorem dX9_pairs_2 : decode cX9_pairs 2 = .ok (.iconst 0, 1) := by decide +kernel
theorem dX9_pairs_3 : decode cX9_pairs 3 = .ok (.istore_n 2, 1) := by decide +kernel
theorem dX9_pairs_4 : decode cX9_pairs 4 = .ok (.iload_n 2, 1) := by decide +kernel
theorem dX9_pairs_5 : decode cX9_pairs 5 = .ok (.bipush 12, 2) := by decide +kernel
theorem dX9_pairs_7 : decode cX9_pairs 7 = .ok (.if_icmp .ge 45, 3) := by decide +kernel
theorem dX9_pairs_10 : decode cX9_pairs 10 = .ok (.iload_n 1, 1) := by decide +kernel
theorem dX9_pairs_11 : decode cX9_pairs 11 = .ok (.aload_n 0, 1) := by decide +kernel
theorem dX9_pairs_12 : decode cX9_pairs 12 = .ok (.aload_n 0, 1) := by decide +kernel
theorem dX9_pairs_13 : decode cX9_pairs 13 = .ok (.getfield 28, 3) := by decide +kernel
theorem dX9_pairs_16 : decode cX9_pairs 16 = .ok (.iload_n 2, 1) := by decide +kernel
theorem dX9_pairs_17 : decode cX9_pairs 17 = .ok (.invokevirtual 125, 3) := by decide +kernel
theorem dX9_pairs_20 : decode cX9_pairs 20 = .ok (.aload_n 0, 1) := by decide +kernel
theorem dX9_pairs_21 : decode cX9_pairs 21 = .ok (.aload_n 0, 1) := by decide +kernel
theorem dX9_pairs_22 : decode cX9_pairs 22 = .ok (.getfield 28, 3) := by decide +kernel
theorem dX9_pairs_25 : decode cX9_pairs 25 = .ok (.iconst 2, 1) := by decide +kernel
theorem dX9_pairs_26 : decode cX9_pairs 26 = .ok (.invokevirtual 122, 3) := by decide +kernel
theorem dX9_pairs_29 : decode cX9_pairs 29 = .ok (.iand, 1) := by decide +kernel
theorem dX9_pairs_30 : decode cX9_pairs 30 = .ok (.invokestatic 128, 3) := by decide +kernel
theorem dX9_pairs_33 : decode cX9_pairs 33 = .ok (.iconst 1, 1) := by decide +kernel
theorem dX9_pairs_34 : decode cX9_pairs 34 = .ok (.if_icmp .le 9, 3) := by decide +kernel
theorem dX9_pairs_37 : decode cX9_pairs 37 = .ok (.iconst 1, 1) := by decide +kernel
theorem dX9_pairs_38 : decode cX9_pairs 38 = .ok (.iload_n 2, 1) := by decide +kernel
theorem dX9_pairs_39 : decode cX9_pairs 39 = .ok (.ishl, 1) := by decide +kernel
theorem dX9_pairs_40 : decode cX9_pairs 40 = .ok (.goto 4, 3) := by decide +kernel
theorem dX9_pairs_43 : decode cX9_pairs 43 = .ok (.iconst 0, 1) := by decide +kernel
theorem dX9_pairs_44 : decode cX9_pairs 44 = .ok (.ior, 1) := by decide +kernel
theorem dX9_pairs_45 : decode cX9_pairs 45 = .ok (.istore_n 1, 1) := by decide +kernel
theorem dX9_pairs_46 : decode cX9_pairs 46 = .ok (.iinc 2 1, 3) := by decide +kernel
theorem dX9_pairs_49 : decode cX9_pairs 49 = .ok (.goto (-45), 3) := by decide +kernel
theorem dX9_pairs_52 : decode cX9_pairs 52 = .ok (.iload_n 1, 1) := by decide +kernel
theorem dX9_pairs_53 : decode cX9_pairs 53 = .ok (.ireturn, 1) := by decide +kernel
theorem dX9_nextOf_0 : decode cX9_nextOf 0 = .ok (.bipush (-9), 2) := by decide +kernel
theorem dX9_nextOf_2 : decode cX9_nextOf 2 = .ok (.istore_n 3, 1) := by decide +kernel
theorem dX9_nextOf_3 : decode cX9_nextOf 3 = .ok (.aload_n 0, 1) := by decide +kernel
theorem dX9_nextOf_4 : decode cX9_nextOf 4 = .ok (.getfield 63, 3) := by decide +kernel
theorem dX9_nextOf_7 : decode cX9_nextOf 7 = .ok (.iconst 1, 1) := by decide +kernel
theorem dX9_nextOf_8 : decode cX9_nextOf 8 = .ok (.isub, 1) := by decide +kernel
theorem dX9_nextOf_9 : decode cX9_nextOf 9 = .ok (.istore 4, 2) := by decide +kernel
theorem dX9_nextOf_11 : decode cX9_nextOf 11 = .ok (.iload 4, 2) := by decide +kernel
theorem dX9_nextOf_13 : decode cX9_nextOf 13 = .ok (.ifCond .lt 70, 3) := by decide +kernel
theorem dX9_nextOf_16 : decode cX9_nextOf 16 = .ok (.aload_n 1, 1) := by decide +kernel
theorem dX9_nextOf_17 : decode cX9_nextOf 17 = .ok (.bipush 6, 2) := by decide +kernel
theorem dX9_nextOf_19 : decode cX9_nextOf 19 = .ok (.iload 4, 2) := by decide +kernel
theorem dX9_nextOf_21 : decode cX9_nextOf 21 = .ok (.iadd, 1) := by decide +kernel
theorem dX9_nextOf_22 : decode cX9_nextOf 22 = .ok (.iaload, 1) := by decide +kernel
theorem dX9_nextOf_23 : decode cX9_nextOf 23 = .ok (.ifCond .ne 17, 3) := by decide +kernel
theorem dX9_nextOf_26 : decode cX9_nextOf 26 = .ok (.aload_n 1, 1) := by decide +kernel
theorem dX9_nextOf_27 : decode cX9_nextOf 27 = .ok (.iload 4, 2) := by decide +kernel
theorem dX9_nextOf_29 : decode cX9_nextOf 29 = .ok (.iaload, 1) := by decide +kernel
theorem dX9_nextOf_30 : decode cX9_nextOf 30 = .ok (.iconst 4, 1) := by decide +kernel
theorem dX9_nextOf_31 : decode cX9_nextOf 31 = .ok (.idiv, 1) := by decide +kernel
theorem dX9_nextOf_32 : decode cX9_nextOf 32 = .ok (.iload_n 2, 1) := by decide +kernel
theorem dX9_nextOf_33 : decode cX9_nextOf 33 = .ok (.if_icmp .ne 7, 3) := by decide +kernel
theorem dX9_nextOf_36 : decode cX9_nextOf 36 = .ok (.iconst 1, 1) := by decide +kernel
theorem dX9_nextOf_37 : decode cX9_nextOf 37 = .ok (.goto 4, 3) := by decide +kernel
theorem dX9_nextOf_40 : decode cX9_nextOf 40 = .ok (.iconst 0, 1) := by decide +kernel
theorem dX9_nextOf_41 : decode cX9_nextOf 41 = .ok (.istore 5, 2) := by decide +kernel
theorem dX9_nextOf_43 : decode cX9_nextOf 43 = .ok (.iload 5, 2) := by decide +kernel
theorem dX9_nextOf_45 : decode cX9_nextOf 45 = .ok (.ifCond .eq 30, 3) := by decide +kernel
theorem dX9_nextOf_48 : decode cX9_nextOf 48 = .ok (.iload_n 3, 1) := by decide +kernel
theorem dX9_nextOf_49 : decode cX9_nextOf 49 = .ok (.bipush (-9), 2) := by decide +kernel
theorem dX9_nextOf_51 : decode cX9_nextOf 51 = .ok (.if_icmp .eq 19, 3) := by decide +kernel
theorem dX9_nextOf_54 : decode cX9_nextOf 54 = .ok (.aload_n 0, 1) := by decide +kernel
theorem dX9_nextOf_55 : decode cX9_nextOf 55 = .ok (.aload_n 1, 1) := by decide +kernel
theorem dX9_nextOf_56 : decode cX9_nextOf 56 = .ok (.iload 4, 2) := by decide +kernel
theorem dX9_nextOf_58 : decode cX9_nextOf 58 = .ok (.invokevirtual 131, 3) := by decide +kernel
theorem dX9_nextOf_61 : decode cX9_nextOf 61 = .ok (.aload_n 0, 1) := by decide +kernel
theorem dX9_nextOf_62 : decode cX9_nextOf 62 = .ok (.aload_n 1, 1) := by decide +kernel
theorem dX9_nextOf_63 : decode cX9_nextOf 63 = .ok (.iload_n 3, 1) := by decide +kernel
theorem dX9_nextOf_64 : decode cX9_nextOf 64 = .ok (.invokevirtual 131, 3) := by decide +kernel
theorem dX9_nextOf_67 : decode cX9_nextOf 67 = .ok (.if_icmp .gt 8, 3) := by decide +kernel
theorem dX9_nextOf_70 : decode cX9_nextOf 70 = .ok (.iload 4, 2) := by decide +kernel
theorem dX9_nextOf_72 : decode cX9_nextOf 72 = .ok (.goto 4, 3) := by decide +kernel
theorem dX9_nextOf_75 : decode cX9_nextOf 75 = .ok (.iload_n 3, 1) := by decide +kernel
theorem dX9_nextOf_76 : decode cX9_nextOf 76 = .ok (.istore_n 3, 1) := by decide +kernel
theorem dX9_nextOf_77 : decode cX9_nextOf 77 = .ok (.iinc 4 (-1), 3) := by decide +kernel
theorem dX9_nextOf_80 : decode cX9_nextOf 80 = .ok (.goto (-69), 3) := by decide +kernel
theorem dX9_nextOf_83 : decode cX9_nextOf 83 = .ok (.iload_n 3, 1) := by decide +kernel
theorem dX9_nextOf_84 : decode cX9_nextOf 84 = .ok (.ireturn, 1) := by decide +kernel
theorem dX9_answer_0 : decode cX9_answer 0 = .ok (.iconst 0, 1) := by decide +kernel
theorem dX9_answer_1 : decode cX9_answer 1 = .ok (.istore_n 3, 1) := by decide +kernel
theorem dX9_answer_2 : decode cX9_answer 2 = .ok (.iload_n 3, 1) := by decide +kernel
theorem dX9_answer_3 : decode cX9_answer 3 = .ok (.aload_n 0, 1) := by decide +kernel
theorem dX9_answer_4 : decode cX9_answer 4 = .ok (.getfield 19, 3) := by decide +kernel
theorem dX9_answer_7 : decode cX9_answer 7 = .ok (.iload_n 2, 1) := by decide +kernel
theorem dX9_answer_8 : decode cX9_answer 8 = .ok (.iaload, 1) := by decide +kernel
theorem dX9_answer_9 : decode cX9_answer 9 = .ok (.if_icmp .ge 47, 3) := by decide +kernel
theorem dX9_answer_12 : decode cX9_answer 12 = .ok (.aload_n 0, 1) := by decide +kernel
theorem dX9_answer_13 : decode cX9_answer 13 = .ok (.aload_n 1, 1) := by decide +kernel
theorem dX9_answer_14 : decode cX9_answer 14 = .ok (.aload_n 1, 1) := by decide +kernel
theorem dX9_answer_15 : decode cX9_answer 15 = .ok (.bipush 18, 2) := by decide +kernel
theorem dX9_answer_17 : decode cX9_answer 17 = .ok (.iload_n 2, 1) := by decide +kernel
theorem dX9_answer_18 : decode cX9_answer 18 = .ok (.iadd, 1) := by decide +kernel
theorem dX9_answer_19 : decode cX9_answer 19 = .ok (.iaload, 1) := by decide +kernel
theorem dX9_answer_20 : decode cX9_answer 20 = .ok (.invokevirtual 134, 3) := by decide +kernel
theorem dX9_answer_23 : decode cX9_answer 23 = .ok (.istore 4, 2) := by decide +kernel
theorem dX9_answer_25 : decode cX9_answer 25 = .ok (.iload 4, 2) := by decide +kernel
theorem dX9_answer_27 : decode cX9_answer 27 = .ok (.bipush (-9), 2) := by decide +kernel
theorem dX9_answer_29 : decode cX9_answer 29 = .ok (.if_icmp .eq 21, 3) := by decide +kernel
theorem dX9_answer_32 : decode cX9_answer 32 = .ok (.aload_n 1, 1) := by decide +kernel
theorem dX9_answer_33 : decode cX9_answer 33 = .ok (.bipush 6, 2) := by decide +kernel
theorem dX9_answer_35 : decode cX9_answer 35 = .ok (.iload 4, 2) := by decide +kernel
theorem dX9_answer_37 : decode cX9_answer 37 = .ok (.iadd, 1) := by decide +kernel
theorem dX9_answer_38 : decode cX9_answer 38 = .ok (.iconst 1, 1) := by decide +kernel
theorem dX9_answer_39 : decode cX9_answer 39 = .ok (.iastore, 1) := by decide +kernel
theorem dX9_answer_40 : decode cX9_answer 40 = .ok (.aload_n 0, 1) := by decide +kernel
theorem dX9_answer_41 : decode cX9_answer 41 = .ok (.getfield 50, 3) := by decide +kernel
theorem dX9_answer_44 : decode cX9_answer 44 = .ok (.iload_n 2, 1) := by decide +kernel
theorem dX9_answer_45 : decode cX9_answer 45 = .ok (.dup2, 1) := by decide +kernel
theorem dX9_answer_46 : decode cX9_answer 46 = .ok (.iaload, 1) := by decide +kernel
theorem dX9_answer_47 : decode cX9_answer 47 = .ok (.iconst 1, 1) := by decide +kernel
theorem dX9_answer_48 : decode cX9_answer 48 = .ok (.iadd, 1) := by decide +kernel
theorem dX9_answer_49 : decode cX9_answer 49 = .ok (.iastore, 1) := by decide +kernel
theorem dX9_answer_50 : decode cX9_answer 50 = .ok (.iinc 3 1, 3) := by decide +kernel
theorem dX9_answer_53 : decode cX9_answer 53 = .ok (.goto (-51), 3) := by decide +kernel
theorem dX9_answer_56 : decode cX9_answer 56 = .ok (.return_, 1) := by decide +kernel
theorem dX9_putOut_0 : decode cX9_putOut 0 = .ok (.iconst 0, 1) := by decide +kernel
theorem dX9_putOut_1 : decode cX9_putOut 1 = .ok (.istore_n 3, 1) := by decide +kernel
theorem dX9_putOut_2 : decode cX9_putOut 2 = .ok (.iload_n 3, 1) := by decide +kernel
theorem dX9_putOut_3 : decode cX9_putOut 3 = .ok (.aload_n 0, 1) := by decide +kernel
theorem dX9_putOut_4 : decode cX9_putOut 4 = .ok (.getfield 63, 3) := by decide +kernel
theorem dX9_putOut_7 : decode cX9_putOut 7 = .ok (.if_icmp .ge 62, 3) := by decide +kernel
theorem dX9_putOut_10 : decode cX9_putOut 10 = .ok (.iload_n 3, 1) := by decide +kernel
theorem dX9_putOut_11 : decode cX9_putOut 11 = .ok (.iload_n 2, 1) := by decide +kernel
theorem dX9_putOut_12 : decode cX9_putOut 12 = .ok (.if_icmp .eq 32, 3) := by decide +kernel
theorem dX9_putOut_15 : decode cX9_putOut 15 = .ok (.aload_n 1, 1) := by decide +kernel
theorem dX9_putOut_16 : decode cX9_putOut 16 = .ok (.bipush 6, 2) := by decide +kernel
theorem dX9_putOut_18 : decode cX9_putOut 18 = .ok (.iload_n 3, 1) := by decide +kernel
theorem dX9_putOut_19 : decode cX9_putOut 19 = .ok (.iadd, 1) := by decide +kernel
theorem dX9_putOut_20 : decode cX9_putOut 20 = .ok (.iaload, 1) := by decide +kernel
theorem dX9_putOut_21 : decode cX9_putOut 21 = .ok (.ifCond .ne 23, 3) := by decide +kernel
theorem dX9_putOut_24 : decode cX9_putOut 24 = .ok (.aload_n 1, 1) := by decide +kernel
theorem dX9_putOut_25 : decode cX9_putOut 25 = .ok (.iload_n 3, 1) := by decide +kernel
theorem dX9_putOut_26 : decode cX9_putOut 26 = .ok (.iaload, 1) := by decide +kernel
theorem dX9_putOut_27 : decode cX9_putOut 27 = .ok (.aload_n 1, 1) := by decide +kernel
theorem dX9_putOut_28 : decode cX9_putOut 28 = .ok (.iload_n 2, 1) := by decide +kernel
theorem dX9_putOut_29 : decode cX9_putOut 29 = .ok (.iaload, 1) := by decide +kernel
theorem dX9_putOut_30 : decode cX9_putOut 30 = .ok (.if_icmp .ne 14, 3) := by decide +kernel
theorem dX9_putOut_33 : decode cX9_putOut 33 = .ok (.aload_n 1, 1) := by decide +kernel
theorem dX9_putOut_34 : decode cX9_putOut 34 = .ok (.iload_n 2, 1) := by decide +kernel
theorem dX9_putOut_35 : decode cX9_putOut 35 = .ok (.iaload, 1) := by decide +kernel
theorem dX9_putOut_36 : decode cX9_putOut 36 = .ok (.iconst 3, 1) := by decide +kernel
theorem dX9_putOut_37 : decode cX9_putOut 37 = .ok (.if_icmp .le 7, 3) := by decide +kernel
theorem dX9_putOut_40 : decode cX9_putOut 40 = .ok (.iconst 1, 1) := by decide +kernel
theorem dX9_putOut_41 : decode cX9_putOut 41 = .ok (.goto 4, 3) := by decide +kernel
theorem dX9_putOut_44 : decode cX9_putOut 44 = .ok (.iconst 0, 1) := by decide +kernel
theorem dX9_putOut_45 : decode cX9_putOut 45 = .ok (.istore 4, 2) := by decide +kernel
theorem dX9_putOut_47 : decode cX9_putOut 47 = .ok (.aload_n 1, 1) := by decide +kernel
theorem dX9_putOut_48 : decode cX9_putOut 48 = .ok (.iload_n 3, 1) := by decide +kernel
theorem dX9_putOut_49 : decode cX9_putOut 49 = .ok (.dup2, 1) := by decide +kernel
theorem dX9_putOut_50 : decode cX9_putOut 50 = .ok (.iaload, 1) := by decide +kernel
theorem dX9_putOut_51 : decode cX9_putOut 51 = .ok (.iload 4, 2) := by decide +kernel
theorem dX9_putOut_53 : decode cX9_putOut 53 = .ok (.ifCond .eq 7, 3) := by decide +kernel
theorem dX9_putOut_56 : decode cX9_putOut 56 = .ok (.iconst 4, 1) := by decide +kernel
theorem dX9_putOut_57 : decode cX9_putOut 57 = .ok (.goto 4, 3) := by decide +kernel
theorem dX9_putOut_60 : decode cX9_putOut 60 = .ok (.iconst 0, 1) := by decide +kernel
theorem dX9_putOut_61 : decode cX9_putOut 61 = .ok (.isub, 1) := by decide +kernel
theorem dX9_putOut_62 : decode cX9_putOut 62 = .ok (.iastore, 1) := by decide +kernel
theorem dX9_putOut_63 : decode cX9_putOut 63 = .ok (.iinc 3 1, 3) := by decide +kernel
theorem dX9_putOut_66 : decode cX9_putOut 66 = .ok (.goto (-64), 3) := by decide +kernel
theorem dX9_putOut_69 : decode cX9_putOut 69 = .ok (.return_, 1) := by decide +kernel
theorem dX9_hatch_0 : decode cX9_hatch 0 = .ok (.iconst 0, 1) := by decide +kernel
theorem dX9_hatch_1 : decode cX9_hatch 1 = .ok (.istore_n 2, 1) := by decide +kernel
theorem dX9_hatch_2 : decode cX9_hatch 2 = .ok (.iconst 0, 1) := by decide +kernel
theorem dX9_hatch_3 : decode cX9_hatch 3 = .ok (.istore_n 3, 1) := by decide +kernel
theorem dX9_hatch_4 : decode cX9_hatch 4 = .ok (.iload_n 3, 1) := by decide +kernel
theorem dX9_hatch_5 : decode cX9_hatch 5 = .ok (.aload_n 0, 1) := by decide +kernel
theorem dX9_hatch_6 : decode cX9_hatch 6 = .ok (.getfield 63, 3) := by decide +kernel
theorem dX9_hatch_9 : decode cX9_hatch 9 = .ok (.if_icmp .ge 32, 3) := by decide +kernel
theorem dX9_hatch_12 : decode cX9_hatch 12 = .ok (.aload_n 1, 1) := by decide +kernel
theorem dX9_hatch_13 : decode cX9_hatch 13 = .ok (.bipush 12, 2) := by decide +kernel
theorem dX9_hatch_15 : decode cX9_hatch 15 = .ok (.iload_n 3, 1) := by decide +kernel
theorem dX9_hatch_16 : decode cX9_hatch 16 = .ok (.iadd, 1) := by decide +kernel
theorem dX9_hatch_17 : decode cX9_hatch 17 = .ok (.dup2, 1) := by decide +kernel
theorem dX9_hatch_18 : decode cX9_hatch 18 = .ok (.iaload, 1) := by decide +kernel
theorem dX9_hatch_19 : decode cX9_hatch 19 = .ok (.aload_n 1, 1) := by decide +kernel
theorem dX9_hatch_20 : decode cX9_hatch 20 = .ok (.bipush 6, 2) := by decide +kernel
theorem dX9_hatch_22 : decode cX9_hatch 22 = .ok (.iload_n 3, 1) := by decide +kernel
theorem dX9_hatch_23 : decode cX9_hatch 23 = .ok (.iadd, 1) := by decide +kernel
theorem dX9_hatch_24 : decode cX9_hatch 24 = .ok (.iaload, 1) := by decide +kernel
theorem dX9_hatch_25 : decode cX9_hatch 25 = .ok (.ifCond .ne 7, 3) := by decide +kernel
theorem dX9_hatch_28 : decode cX9_hatch 28 = .ok (.iconst 1, 1) := by decide +kernel
theorem dX9_hatch_29 : decode cX9_hatch 29 = .ok (.goto 4, 3) := by decide +kernel
theorem dX9_hatch_32 : decode cX9_hatch 32 = .ok (.iconst 0, 1) := by decide +kernel
theorem dX9_hatch_33 : decode cX9_hatch 33 = .ok (.iadd, 1) := by decide +kernel
theorem dX9_hatch_34 : decode cX9_hatch 34 = .ok (.iastore, 1) := by decide +kernel
theorem dX9_hatch_35 : decode cX9_hatch 35 = .ok (.iinc 3 1, 3) := by decide +kernel
theorem dX9_hatch_38 : decode cX9_hatch 38 = .ok (.goto (-34), 3) := by decide +kernel
theorem dX9_hatch_41 : decode cX9_hatch 41 = .ok (.iconst 0, 1) := by decide +kernel
theorem dX9_hatch_42 : decode cX9_hatch 42 = .ok (.istore_n 3, 1) := by decide +kernel
theorem dX9_hatch_43 : decode cX9_hatch 43 = .ok (.iload_n 3, 1) := by decide +kernel
theorem dX9_hatch_44 : decode cX9_hatch 44 = .ok (.aload_n 0, 1) := by decide +kernel
theorem dX9_hatch_45 : decode cX9_hatch 45 = .ok (.getfield 63, 3) := by decide +kernel
theorem dX9_hatch_48 : decode cX9_hatch 48 = .ok (.if_icmp .ge 59, 3) := by decide +kernel
theorem dX9_hatch_51 : decode cX9_hatch 51 = .ok (.aload_n 1, 1) := by decide +kernel
theorem dX9_hatch_52 : decode cX9_hatch 52 = .ok (.bipush 6, 2) := by decide +kernel
theorem dX9_hatch_54 : decode cX9_hatch 54 = .ok (.iload_n 3, 1) := by decide +kernel
theorem dX9_hatch_55 : decode cX9_hatch 55 = .ok (.iadd, 1) := by decide +kernel
theorem dX9_hatch_56 : decode cX9_hatch 56 = .ok (.iaload, 1) := by decide +kernel
theorem dX9_hatch_57 : decode cX9_hatch 57 = .ok (.ifCond .ne 44, 3) := by decide +kernel
theorem dX9_hatch_60 : decode cX9_hatch 60 = .ok (.aload_n 1, 1) := by decide +kernel
theorem dX9_hatch_61 : decode cX9_hatch 61 = .ok (.bipush 12, 2) := by decide +kernel
theorem dX9_hatch_63 : decode cX9_hatch 63 = .ok (.iload_n 3, 1) := by decide +kernel
theorem dX9_hatch_64 : decode cX9_hatch 64 = .ok (.iadd, 1) := by decide +kernel
theorem dX9_hatch_65 : decode cX9_hatch 65 = .ok (.iaload, 1) := by decide +kernel
theorem dX9_hatch_66 : decode cX9_hatch 66 = .ok (.aload_n 0, 1) := by decide +kernel
theorem dX9_hatch_67 : decode cX9_hatch 67 = .ok (.aload_n 1, 1) := by decide +kernel
theorem dX9_hatch_68 : decode cX9_hatch 68 = .ok (.iload_n 3, 1) := by decide +kernel
theorem dX9_hatch_69 : decode cX9_hatch 69 = .ok (.invokevirtual 118, 3) := by decide +kernel
theorem dX9_hatch_72 : decode cX9_hatch 72 = .ok (.if_icmp .lt 29, 3) := by decide +kernel
theorem dX9_hatch_75 : decode cX9_hatch 75 = .ok (.aload_n 1, 1) := by decide +kernel
theorem dX9_hatch_76 : decode cX9_hatch 76 = .ok (.bipush 6, 2) := by decide +kernel
theorem dX9_hatch_78 : decode cX9_hatch 78 = .ok (.iload_n 3, 1) := by decide +kernel
theorem dX9_hatch_79 : decode cX9_hatch 79 = .ok (.iadd, 1) := by decide +kernel
theorem dX9_hatch_80 : decode cX9_hatch 80 = .ok (.iconst 2, 1) := by decide +kernel
theorem dX9_hatch_81 : decode cX9_hatch 81 = .ok (.iastore, 1) := by decide +kernel
theorem dX9_hatch_82 : decode cX9_hatch 82 = .ok (.iinc 2 1, 3) := by decide +kernel
theorem dX9_hatch_85 : decode cX9_hatch 85 = .ok (.aload_n 0, 1) := by decide +kernel
theorem dX9_hatch_86 : decode cX9_hatch 86 = .ok (.getfield 16, 3) := by decide +kernel
theorem dX9_hatch_89 : decode cX9_hatch 89 = .ok (.iload_n 3, 1) := by decide +kernel
theorem dX9_hatch_90 : decode cX9_hatch 90 = .ok (.iaload, 1) := by decide +kernel
theorem dX9_hatch_91 : decode cX9_hatch 91 = .ok (.iconst 1, 1) := by decide +kernel
theorem dX9_hatch_92 : decode cX9_hatch 92 = .ok (.if_icmp .ne 9, 3) := by decide +kernel
theorem dX9_hatch_95 : decode cX9_hatch 95 = .ok (.aload_n 0, 1) := by decide +kernel
theorem dX9_hatch_96 : decode cX9_hatch 96 = .ok (.aload_n 1, 1) := by decide +kernel
theorem dX9_hatch_97 : decode cX9_hatch 97 = .ok (.iload_n 3, 1) := by decide +kernel
theorem dX9_hatch_98 : decode cX9_hatch 98 = .ok (.invokevirtual 137, 3) := by decide +kernel
theorem dX9_hatch_101 : decode cX9_hatch 101 = .ok (.iinc 3 1, 3) := by decide +kernel
theorem dX9_hatch_104 : decode cX9_hatch 104 = .ok (.goto (-61), 3) := by decide +kernel
theorem dX9_hatch_107 : decode cX9_hatch 107 = .ok (.iload_n 2, 1) := by decide +kernel
theorem dX9_hatch_108 : decode cX9_hatch 108 = .ok (.ireturn, 1) := by decide +kernel
theorem dX9_goDay_0 : decode cX9_goDay 0 = .ok (.iconst 0, 1) := by decide +kernel
theorem dX9_goDay_1 : decode cX9_goDay 1 = .ok (.istore_n 2, 1) := by decide +kernel
theorem dX9_goDay_2 : decode cX9_goDay 2 = .ok (.iload_n 2, 1) := by decide +kernel
theorem dX9_goDay_3 : decode cX9_goDay 3 = .ok (.aload_n 0, 1) := by decide +kernel
theorem dX9_goDay_4 : decode cX9_goDay 4 = .ok (.getfield 70, 3) := by decide +kernel
theorem dX9_goDay_7 : decode cX9_goDay 7 = .ok (.if_icmp .ge 26, 3) := by decide +kernel
theorem dX9_goDay_10 : decode cX9_goDay 10 = .ok (.aload_n 0, 1) := by decide +kernel
theorem dX9_goDay_11 : decode cX9_goDay 11 = .ok (.getfield 141, 3) := by decide +kernel
theorem dX9_goDay_14 : decode cX9_goDay 14 = .ok (.iload_n 2, 1) := by decide +kernel
theorem dX9_goDay_15 : decode cX9_goDay 15 = .ok (.invokestatic 144, 3) := by decide +kernel
theorem dX9_goDay_18 : decode cX9_goDay 18 = .ok (.ifCond .eq 9, 3) := by decide +kernel
theorem dX9_goDay_21 : decode cX9_goDay 21 = .ok (.aload_n 0, 1) := by decide +kernel
theorem dX9_goDay_22 : decode cX9_goDay 22 = .ok (.aload_n 1, 1) := by decide +kernel
theorem dX9_goDay_23 : decode cX9_goDay 23 = .ok (.iload_n 2, 1) := by decide +kernel
theorem dX9_goDay_24 : decode cX9_goDay 24 = .ok (.invokevirtual 148, 3) := by decide +kernel
theorem dX9_goDay_27 : decode cX9_goDay 27 = .ok (.iinc 2 1, 3) := by decide +kernel
theorem dX9_goDay_30 : decode cX9_goDay 30 = .ok (.goto (-28), 3) := by decide +kernel
theorem dX9_goDay_33 : decode cX9_goDay 33 = .ok (.aload_n 0, 1) := by decide +kernel
theorem dX9_goDay_34 : decode cX9_goDay 34 = .ok (.aload_n 1, 1) := by decide +kernel
theorem dX9_goDay_35 : decode cX9_goDay 35 = .ok (.invokevirtual 151, 3) := by decide +kernel
theorem dX9_goDay_38 : decode cX9_goDay 38 = .ok (.istore_n 2, 1) := by decide +kernel
theorem dX9_goDay_39 : decode cX9_goDay 39 = .ok (.iconst 0, 1) := by decide +kernel
theorem dX9_goDay_40 : decode cX9_goDay 40 = .ok (.istore_n 3, 1) := by decide +kernel
theorem dX9_goDay_41 : decode cX9_goDay 41 = .ok (.iload_n 3, 1) := by decide +kernel
theorem dX9_goDay_42 : decode cX9_goDay 42 = .ok (.aload_n 0, 1) := by decide +kernel
theorem dX9_goDay_43 : decode cX9_goDay 43 = .ok (.getfield 63, 3) := by decide +kernel
theorem dX9_goDay_46 : decode cX9_goDay 46 = .ok (.if_icmp .ge 56, 3) := by decide +kernel
theorem dX9_goDay_49 : decode cX9_goDay 49 = .ok (.aload_n 1, 1) := by decide +kernel
theorem dX9_goDay_50 : decode cX9_goDay 50 = .ok (.bipush 6, 2) := by decide +kernel
theorem dX9_goDay_52 : decode cX9_goDay 52 = .ok (.iload_n 3, 1) := by decide +kernel
theorem dX9_goDay_53 : decode cX9_goDay 53 = .ok (.iadd, 1) := by decide +kernel
theorem dX9_goDay_54 : decode cX9_goDay 54 = .ok (.iaload, 1) := by decide +kernel
theorem dX9_goDay_55 : decode cX9_goDay 55 = .ok (.iconst 2, 1) := by decide +kernel
theorem dX9_goDay_56 : decode cX9_goDay 56 = .ok (.if_icmp .ne 40, 3) := by decide +kernel
theorem dX9_goDay_59 : decode cX9_goDay 59 = .ok (.aload_n 1, 1) := by decide +kernel
theorem dX9_goDay_60 : decode cX9_goDay 60 = .ok (.bipush 6, 2) := by decide +kernel
theorem dX9_goDay_62 : decode cX9_goDay 62 = .ok (.iload_n 3, 1) := by decide +kernel
theorem dX9_goDay_63 : decode cX9_goDay 63 = .ok (.iadd, 1) := by decide +kernel
theorem dX9_goDay_64 : decode cX9_goDay 64 = .ok (.aload_n 1, 1) := by decide +kernel
theorem dX9_goDay_65 : decode cX9_goDay 65 = .ok (.bipush 21, 2) := by decide +kernel
theorem dX9_goDay_67 : decode cX9_goDay 67 = .ok (.iaload, 1) := by decide +kernel
theorem dX9_goDay_68 : decode cX9_goDay 68 = .ok (.ifCond .le 7, 3) := by decide +kernel
theorem dX9_goDay_71 : decode cX9_goDay 71 = .ok (.iconst 2, 1) := by decide +kernel
theorem dX9_goDay_72 : decode cX9_goDay 72 = .ok (.goto 4, 3) := by decide +kernel
theorem dX9_goDay_75 : decode cX9_goDay 75 = .ok (.iconst 3, 1) := by decide +kernel
theorem dX9_goDay_76 : decode cX9_goDay 76 = .ok (.iastore, 1) := by decide +kernel
theorem dX9_goDay_77 : decode cX9_goDay 77 = .ok (.aload_n 1, 1) := by decide +kernel
theorem dX9_goDay_78 : decode cX9_goDay 78 = .ok (.bipush 21, 2) := by decide +kernel
theorem dX9_goDay_80 : decode cX9_goDay 80 = .ok (.dup2, 1) := by decide +kernel
theorem dX9_goDay_81 : decode cX9_goDay 81 = .ok (.iaload, 1) := by decide +kernel
theorem dX9_goDay_82 : decode cX9_goDay 82 = .ok (.aload_n 1, 1) := by decide +kernel
theorem dX9_goDay_83 : decode cX9_goDay 83 = .ok (.bipush 21, 2) := by decide +kernel
theorem dX9_goDay_85 : decode cX9_goDay 85 = .ok (.iaload, 1) := by decide +kernel
theorem dX9_goDay_86 : decode cX9_goDay 86 = .ok (.ifCond .le 7, 3) := by decide +kernel
theorem dX9_goDay_89 : decode cX9_goDay 89 = .ok (.iconst 1, 1) := by decide +kernel
theorem dX9_goDay_90 : decode cX9_goDay 90 = .ok (.goto 4, 3) := by decide +kernel
theorem dX9_goDay_93 : decode cX9_goDay 93 = .ok (.iconst 0, 1) := by decide +kernel
theorem dX9_goDay_94 : decode cX9_goDay 94 = .ok (.isub, 1) := by decide +kernel
theorem dX9_goDay_95 : decode cX9_goDay 95 = .ok (.iastore, 1) := by decide +kernel
theorem dX9_goDay_96 : decode cX9_goDay 96 = .ok (.iinc 3 1, 3) := by decide +kernel
theorem dX9_goDay_99 : decode cX9_goDay 99 = .ok (.goto (-58), 3) := by decide +kernel
theorem dX9_goDay_102 : decode cX9_goDay 102 = .ok (.aload_n 1, 1) := by decide +kernel
theorem dX9_goDay_103 : decode cX9_goDay 103 = .ok (.bipush 22, 2) := by decide +kernel
theorem dX9_goDay_105 : decode cX9_goDay 105 = .ok (.dup2, 1) := by decide +kernel
theorem dX9_goDay_106 : decode cX9_goDay 106 = .ok (.iaload, 1) := by decide +kernel
theorem dX9_goDay_107 : decode cX9_goDay 107 = .ok (.iconst 1, 1) := by decide +kernel
theorem dX9_goDay_108 : decode cX9_goDay 108 = .ok (.iadd, 1) := by decide +kernel
theorem dX9_goDay_109 : decode cX9_goDay 109 = .ok (.iastore, 1) := by decide +kernel
theorem dX9_goDay_110 : decode cX9_goDay 110 = .ok (.iload_n 2, 1) := by decide +kernel
theorem dX9_goDay_111 : decode cX9_goDay 111 = .ok (.ireturn, 1) := by decide +kernel
theorem dX9_goDays_0 : decode cX9_goDays 0 = .ok (.iconst 0, 1) := by decide +kernel
theorem dX9_goDays_1 : decode cX9_goDays 1 = .ok (.istore_n 2, 1) := by decide +kernel
theorem dX9_goDays_2 : decode cX9_goDays 2 = .ok (.iload_n 2, 1) := by decide +kernel
theorem dX9_goDays_3 : decode cX9_goDays 3 = .ok (.iload_n 1, 1) := by decide +kernel
theorem dX9_goDays_4 : decode cX9_goDays 4 = .ok (.if_icmp .ge 18, 3) := by decide +kernel
theorem dX9_goDays_7 : decode cX9_goDays 7 = .ok (.aload_n 0, 1) := by decide +kernel
theorem dX9_goDays_8 : decode cX9_goDays 8 = .ok (.aload_n 0, 1) := by decide +kernel
theorem dX9_goDays_9 : decode cX9_goDays 9 = .ok (.getfield 31, 3) := by decide +kernel
theorem dX9_goDays_12 : decode cX9_goDays 12 = .ok (.invokevirtual 155, 3) := by decide +kernel
theorem dX9_goDays_15 : decode cX9_goDays 15 = .ok (.pop, 1) := by decide +kernel
theorem dX9_goDays_16 : decode cX9_goDays 16 = .ok (.iinc 2 1, 3) := by decide +kernel
theorem dX9_goDays_19 : decode cX9_goDays 19 = .ok (.goto (-17), 3) := by decide +kernel
theorem dX9_goDays_22 : decode cX9_goDays 22 = .ok (.return_, 1) := by decide +kernel
theorem dX9_about_0 : decode cX9_about 0 = .ok (.aload_n 0, 1) := by decide +kernel
theorem dX9_about_1 : decode cX9_about 1 = .ok (.iconst 0, 1) := by decide +kernel
theorem dX9_about_2 : decode cX9_about 2 = .ok (.putfield 59, 3) := by decide +kernel
theorem dX9_about_5 : decode cX9_about 5 = .ok (.iload_n 1, 1) := by decide +kernel
theorem dX9_about_6 : decode cX9_about 6 = .ok (.tableswitch 120 0 11 #[62, 67, 72, 80, 88, 88, 88, 88, 100, 105, 110, 115], 62) := by decide +kernel
theorem dX9_about_68 : decode cX9_about 68 = .ok (.aload_n 0, 1) := by decide +kernel
theorem dX9_about_69 : decode cX9_about 69 = .ok (.getfield 63, 3) := by decide +kernel
theorem dX9_about_72 : decode cX9_about 72 = .ok (.ireturn, 1) := by decide +kernel
theorem dX9_about_73 : decode cX9_about 73 = .ok (.aload_n 0, 1) := by decide +kernel
theorem dX9_about_74 : decode cX9_about 74 = .ok (.getfield 70, 3) := by decide +kernel
theorem dX9_about_77 : decode cX9_about 77 = .ok (.ireturn, 1) := by decide +kernel
theorem dX9_about_78 : decode cX9_about 78 = .ok (.aload_n 0, 1) := by decide +kernel
theorem dX9_about_79 : decode cX9_about 79 = .ok (.getfield 28, 3) := by decide +kernel
theorem dX9_about_82 : decode cX9_about 82 = .ok (.bipush 22, 2) := by decide +kernel
theorem dX9_about_84 : decode cX9_about 84 = .ok (.iaload, 1) := by decide +kernel
theorem dX9_about_85 : decode cX9_about 85 = .ok (.ireturn, 1) := by decide +kernel
theorem dX9_about_86 : decode cX9_about 86 = .ok (.aload_n 0, 1) := by decide +kernel
theorem dX9_about_87 : decode cX9_about 87 = .ok (.getfield 28, 3) := by decide +kernel
theorem dX9_about_90 : decode cX9_about 90 = .ok (.bipush 21, 2) := by decide +kernel
theorem dX9_about_92 : decode cX9_about 92 = .ok (.iaload, 1) := by decide +kernel
theorem dX9_about_93 : decode cX9_about 93 = .ok (.ireturn, 1) := by decide +kernel
theorem dX9_about_94 : decode cX9_about 94 = .ok (.aload_n 0, 1) := by decide +kernel
theorem dX9_about_95 : decode cX9_about 95 = .ok (.aload_n 0, 1) := by decide +kernel
theorem dX9_about_96 : decode cX9_about 96 = .ok (.getfield 28, 3) := by decide +kernel
theorem dX9_about_99 : decode cX9_about 99 = .ok (.iload_n 1, 1) := by decide +kernel
theorem dX9_about_100 : decode cX9_about 100 = .ok (.iconst 4, 1) := by decide +kernel
theorem dX9_about_101 : decode cX9_about 101 = .ok (.isub, 1) := by decide +kernel
theorem dX9_about_102 : decode cX9_about 102 = .ok (.invokevirtual 122, 3) := by decide +kernel
theorem dX9_about_105 : decode cX9_about 105 = .ok (.ireturn, 1) := by decide +kernel
theorem dX9_about_106 : decode cX9_about 106 = .ok (.aload_n 0, 1) := by decide +kernel
theorem dX9_about_107 : decode cX9_about 107 = .ok (.invokevirtual 158, 3) := by decide +kernel
theorem dX9_about_110 : decode cX9_about 110 = .ok (.ireturn, 1) := by decide +kernel
theorem dX9_about_111 : decode cX9_about 111 = .ok (.aload_n 0, 1) := by decide +kernel
theorem dX9_about_112 : decode cX9_about 112 = .ok (.getfield 112, 3) := by decide +kernel
theorem dX9_about_115 : decode cX9_about 115 = .ok (.ireturn, 1) := by decide +kernel
theorem dX9_about_116 : decode cX9_about 116 = .ok (.aload_n 0, 1) := by decide +kernel
theorem dX9_about_117 : decode cX9_about 117 = .ok (.getfield 161, 3) := by decide +kernel
theorem dX9_about_120 : decode cX9_about 120 = .ok (.ireturn, 1) := by decide +kernel
theorem dX9_about_121 : decode cX9_about 121 = .ok (.aload_n 0, 1) := by decide +kernel
theorem dX9_about_122 : decode cX9_about 122 = .ok (.getfield 75, 3) := by decide +kernel
theorem dX9_about_125 : decode cX9_about 125 = .ok (.ireturn, 1) := by decide +kernel
theorem dX9_about_126 : decode cX9_about 126 = .ok (.bipush (-2), 2) := by decide +kernel
theorem dX9_about_128 : decode cX9_about 128 = .ok (.ireturn, 1) := by decide +kernel
theorem dX9_letter_0 : decode cX9_letter 0 = .ok (.aload_n 0, 1) := by decide +kernel
theorem dX9_letter_1 : decode cX9_letter 1 = .ok (.iconst 0, 1) := by decide +kernel
theorem dX9_letter_2 : decode cX9_letter 2 = .ok (.putfield 59, 3) := by decide +kernel
theorem dX9_letter_5 : decode cX9_letter 5 = .ok (.aload_n 0, 1) := by decide +kernel
theorem dX9_letter_6 : decode cX9_letter 6 = .ok (.iload_n 1, 1) := by decide +kernel
theorem dX9_letter_7 : decode cX9_letter 7 = .ok (.invokevirtual 164, 3) := by decide +kernel
theorem dX9_letter_10 : decode cX9_letter 10 = .ok (.ifCond .eq 5, 3) := by decide +kernel
theorem dX9_letter_13 : decode cX9_letter 13 = .ok (.iconst (-1), 1) := by decide +kernel
theorem dX9_letter_14 : decode cX9_letter 14 = .ok (.ireturn, 1) := by decide +kernel
theorem dX9_letter_15 : decode cX9_letter 15 = .ok (.iload_n 2, 1) := by decide +kernel
theorem dX9_letter_16 : decode cX9_letter 16 = .ok (.tableswitch 108 0 5 #[40, 47, 54, 61, 71, 81], 40) := by decide +kernel
theorem dX9_letter_56 : decode cX9_letter 56 = .ok (.aload_n 0, 1) := by decide +kernel
theorem dX9_letter_57 : decode cX9_letter 57 = .ok (.getfield 28, 3) := by decide +kernel
theorem dX9_letter_60 : decode cX9_letter 60 = .ok (.iload_n 1, 1) := by decide +kernel
theorem dX9_letter_61 : decode cX9_letter 61 = .ok (.iaload, 1) := by decide +kernel
theorem dX9_letter_62 : decode cX9_letter 62 = .ok (.ireturn, 1) := by decide +kernel
theorem dX9_letter_63 : decode cX9_letter 63 = .ok (.aload_n 0, 1) := by decide +kernel
theorem dX9_letter_64 : decode cX9_letter 64 = .ok (.getfield 13, 3) := by decide +kernel
theorem dX9_letter_67 : decode cX9_letter 67 = .ok (.iload_n 1, 1) := by decide +kernel
theorem dX9_letter_68 : decode cX9_letter 68 = .ok (.iaload, 1) := by decide +kernel
theorem dX9_letter_69 : decode cX9_letter 69 = .ok (.ireturn, 1) := by decide +kernel
theorem dX9_letter_70 : decode cX9_letter 70 = .ok (.aload_n 0, 1) := by decide +kernel
theorem dX9_letter_71 : decode cX9_letter 71 = .ok (.getfield 16, 3) := by decide +kernel
theorem dX9_letter_74 : decode cX9_letter 74 = .ok (.iload_n 1, 1) := by decide +kernel
theorem dX9_letter_75 : decode cX9_letter 75 = .ok (.iaload, 1) := by decide +kernel
theorem dX9_letter_76 : decode cX9_letter 76 = .ok (.ireturn, 1) := by decide +kernel
theorem dX9_letter_77 : decode cX9_letter 77 = .ok (.aload_n 0, 1) := by decide +kernel
theorem dX9_letter_78 : decode cX9_letter 78 = .ok (.getfield 28, 3) := by decide +kernel
theorem dX9_letter_81 : decode cX9_letter 81 = .ok (.bipush 6, 2) := by decide +kernel
theorem dX9_letter_83 : decode cX9_letter 83 = .ok (.iload_n 1, 1) := by decide +kernel
theorem dX9_letter_84 : decode cX9_letter 84 = .ok (.iadd, 1) := by decide +kernel
theorem dX9_letter_85 : decode cX9_letter 85 = .ok (.iaload, 1) := by decide +kernel
theorem dX9_letter_86 : decode cX9_letter 86 = .ok (.ireturn, 1) := by decide +kernel
theorem dX9_letter_87 : decode cX9_letter 87 = .ok (.aload_n 0, 1) := by decide +kernel
theorem dX9_letter_88 : decode cX9_letter 88 = .ok (.getfield 28, 3) := by decide +kernel
theorem dX9_letter_91 : decode cX9_letter 91 = .ok (.bipush 12, 2) := by decide +kernel
theorem dX9_letter_93 : decode cX9_letter 93 = .ok (.iload_n 1, 1) := by decide +kernel
theorem dX9_letter_94 : decode cX9_letter 94 = .ok (.iadd, 1) := by decide +kernel
theorem dX9_letter_95 : decode cX9_letter 95 = .ok (.iaload, 1) := by decide +kernel
theorem dX9_letter_96 : decode cX9_letter 96 = .ok (.ireturn, 1) := by decide +kernel
theorem dX9_letter_97 : decode cX9_letter 97 = .ok (.aload_n 0, 1) := by decide +kernel
theorem dX9_letter_98 : decode cX9_letter 98 = .ok (.getfield 28, 3) := by decide +kernel
theorem dX9_letter_101 : decode cX9_letter 101 = .ok (.bipush 6, 2) := by decide +kernel
theorem dX9_letter_103 : decode cX9_letter 103 = .ok (.iload_n 1, 1) := by decide +kernel
theorem dX9_letter_104 : decode cX9_letter 104 = .ok (.iadd, 1) := by decide +kernel
theorem dX9_letter_105 : decode cX9_letter 105 = .ok (.iaload, 1) := by decide +kernel
theorem dX9_letter_106 : decode cX9_letter 106 = .ok (.ifCond .ne 15, 3) := by decide +kernel
theorem dX9_letter_109 : decode cX9_letter 109 = .ok (.aload_n 0, 1) := by decide +kernel
theorem dX9_letter_110 : decode cX9_letter 110 = .ok (.aload_n 0, 1) := by decide +kernel
theorem dX9_letter_111 : decode cX9_letter 111 = .ok (.getfield 28, 3) := by decide +kernel
theorem dX9_letter_114 : decode cX9_letter 114 = .ok (.iload_n 1, 1) := by decide +kernel
theorem dX9_letter_115 : decode cX9_letter 115 = .ok (.invokevirtual 131, 3) := by decide +kernel
theorem dX9_letter_118 : decode cX9_letter 118 = .ok (.goto 5, 3) := by decide +kernel
theorem dX9_letter_121 : decode cX9_letter 121 = .ok (.bipush (-9), 2) := by decide +kernel
theorem dX9_letter_123 : decode cX9_letter 123 = .ok (.ireturn, 1) := by decide +kernel
theorem dX9_letter_124 : decode cX9_letter 124 = .ok (.bipush (-2), 2) := by decide +kernel
theorem dX9_letter_126 : decode cX9_letter 126 = .ok (.ireturn, 1) := by decide +kernel
theorem dX9_clerk_0 : decode cX9_clerk 0 = .ok (.aload_n 0, 1) := by decide +kernel
theorem dX9_clerk_1 : decode cX9_clerk 1 = .ok (.iconst 0, 1) := by decide +kernel
theorem dX9_clerk_2 : decode cX9_clerk 2 = .ok (.putfield 59, 3) := by decide +kernel
theorem dX9_clerk_5 : decode cX9_clerk 5 = .ok (.aload_n 0, 1) := by decide +kernel
theorem dX9_clerk_6 : decode cX9_clerk 6 = .ok (.iload_n 1, 1) := by decide +kernel
theorem dX9_clerk_7 : decode cX9_clerk 7 = .ok (.invokevirtual 168, 3) := by decide +kernel
theorem dX9_clerk_10 : decode cX9_clerk 10 = .ok (.ifCond .eq 5, 3) := by decide +kernel
theorem dX9_clerk_13 : decode cX9_clerk 13 = .ok (.iconst (-1), 1) := by decide +kernel
theorem dX9_clerk_14 : decode cX9_clerk 14 = .ok (.ireturn, 1) := by decide +kernel
theorem dX9_clerk_15 : decode cX9_clerk 15 = .ok (.iload_n 2, 1) := by decide +kernel
theorem dX9_clerk_16 : decode cX9_clerk 16 = .ok (.ifCond .ne 15, 3) := by decide +kernel
theorem dX9_clerk_19 : decode cX9_clerk 19 = .ok (.aload_n 0, 1) := by decide +kernel
theorem dX9_clerk_20 : decode cX9_clerk 20 = .ok (.getfield 28, 3) := by decide +kernel
theorem dX9_clerk_23 : decode cX9_clerk 23 = .ok (.bipush 18, 2) := by decide +kernel
theorem dX9_clerk_25 : decode cX9_clerk 25 = .ok (.iload_n 1, 1) := by decide +kernel
theorem dX9_clerk_26 : decode cX9_clerk 26 = .ok (.iadd, 1) := by decide +kernel
theorem dX9_clerk_27 : decode cX9_clerk 27 = .ok (.iaload, 1) := by decide +kernel
theorem dX9_clerk_28 : decode cX9_clerk 28 = .ok (.goto 19, 3) := by decide +kernel
theorem dX9_clerk_31 : decode cX9_clerk 31 = .ok (.iload_n 2, 1) := by decide +kernel
theorem dX9_clerk_32 : decode cX9_clerk 32 = .ok (.iconst 1, 1) := by decide +kernel
theorem dX9_clerk_33 : decode cX9_clerk 33 = .ok (.if_icmp .ne 12, 3) := by decide +kernel
theorem dX9_clerk_36 : decode cX9_clerk 36 = .ok (.aload_n 0, 1) := by decide +kernel
theorem dX9_clerk_37 : decode cX9_clerk 37 = .ok (.getfield 19, 3) := by decide +kernel
theorem dX9_clerk_40 : decode cX9_clerk 40 = .ok (.iload_n 1, 1) := by decide +kernel
theorem dX9_clerk_41 : decode cX9_clerk 41 = .ok (.iaload, 1) := by decide +kernel
theorem dX9_clerk_42 : decode cX9_clerk 42 = .ok (.goto 5, 3) := by decide +kernel
theorem dX9_clerk_45 : decode cX9_clerk 45 = .ok (.bipush (-2), 2) := by decide +kernel
theorem dX9_clerk_47 : decode cX9_clerk 47 = .ok (.ireturn, 1) := by decide +kernel
theorem dX9_hole_0 : decode cX9_hole 0 = .ok (.aload_n 0, 1) := by decide +kernel
theorem dX9_hole_1 : decode cX9_hole 1 = .ok (.iconst 0, 1) := by decide +kernel
theorem dX9_hole_2 : decode cX9_hole 2 = .ok (.putfield 59, 3) := by decide +kernel
theorem dX9_hole_5 : decode cX9_hole 5 = .ok (.iload_n 1, 1) := by decide +kernel
theorem dX9_hole_6 : decode cX9_hole 6 = .ok (.i2l, 1) := by decide +kernel
theorem dX9_hole_7 : decode cX9_hole 7 = .ok (.lconst 0, 1) := by decide +kernel
theorem dX9_hole_8 : decode cX9_hole 8 = .ok (.ldc2_w 171, 3) := by decide +kernel
theorem dX9_hole_11 : decode cX9_hole 11 = .ok (.invokestatic 66, 3) := by decide +kernel
theorem dX9_hole_14 : decode cX9_hole 14 = .ok (.ifCond .eq 15, 3) := by decide +kernel
theorem dX9_hole_17 : decode cX9_hole 17 = .ok (.aload_n 0, 1) := by decide +kernel
theorem dX9_hole_18 : decode cX9_hole 18 = .ok (.aload_n 0, 1) := by decide +kernel
theorem dX9_hole_19 : decode cX9_hole 19 = .ok (.getfield 28, 3) := by decide +kernel
theorem dX9_hole_22 : decode cX9_hole 22 = .ok (.iload_n 1, 1) := by decide +kernel
theorem dX9_hole_23 : decode cX9_hole 23 = .ok (.invokevirtual 125, 3) := by decide +kernel
theorem dX9_hole_26 : decode cX9_hole 26 = .ok (.goto 4, 3) := by decide +kernel
theorem dX9_hole_29 : decode cX9_hole 29 = .ok (.iconst (-1), 1) := by decide +kernel
theorem dX9_hole_30 : decode cX9_hole 30 = .ok (.ireturn, 1) := by decide +kernel
theorem dX9_note_0 : decode cX9_note 0 = .ok (.aload_n 0, 1) := by decide +kernel
theorem dX9_note_1 : decode cX9_note 1 = .ok (.getfield 112, 3) := by decide +kernel
theorem dX9_note_4 : decode cX9_note 4 = .ok (.bipush 14, 2) := by decide +kernel
theorem dX9_note_6 : decode cX9_note 6 = .ok (.if_icmp .ne 43, 3) := by decide +kernel
theorem dX9_note_9 : decode cX9_note 9 = .ok (.iconst 0, 1) := by decide +kernel
theorem dX9_note_10 : decode cX9_note 10 = .ok (.istore_n 1, 1) := by decide +kernel
theorem dX9_note_11 : decode cX9_note 11 = .ok (.iload_n 1, 1) := by decide +kernel
theorem dX9_note_12 : decode cX9_note 12 = .ok (.sipush 299, 3) := by decide +kernel
theorem dX9_note_15 : decode cX9_note 15 = .ok (.if_icmp .ge 24, 3) := by decide +kernel
theorem dX9_note_18 : decode cX9_note 18 = .ok (.aload_n 0, 1) := by decide +kernel
theorem dX9_note_19 : decode cX9_note 19 = .ok (.getfield 34, 3) := by decide +kernel
theorem dX9_note_22 : decode cX9_note 22 = .ok (.iload_n 1, 1) := by decide +kernel
theorem dX9_note_23 : decode cX9_note 23 = .ok (.aload_n 0, 1) := by decide +kernel
theorem dX9_note_24 : decode cX9_note 24 = .ok (.getfield 34, 3) := by decide +kernel
theorem dX9_note_27 : decode cX9_note 27 = .ok (.iload_n 1, 1) := by decide +kernel
theorem dX9_note_28 : decode cX9_note 28 = .ok (.bipush 23, 2) := by decide +kernel
theorem dX9_note_30 : decode cX9_note 30 = .ok (.iadd, 1) := by decide +kernel
theorem dX9_note_31 : decode cX9_note 31 = .ok (.iaload, 1) := by decide +kernel
theorem dX9_note_32 : decode cX9_note 32 = .ok (.iastore, 1) := by decide +kernel
theorem dX9_note_33 : decode cX9_note 33 = .ok (.iinc 1 1, 3) := by decide +kernel
theorem dX9_note_36 : decode cX9_note 36 = .ok (.goto (-25), 3) := by decide +kernel
theorem dX9_note_39 : decode cX9_note 39 = .ok (.aload_n 0, 1) := by decide +kernel
theorem dX9_note_40 : decode cX9_note 40 = .ok (.dup, 1) := by decide +kernel
theorem dX9_note_41 : decode cX9_note 41 = .ok (.getfield 112, 3) := by decide +kernel
theorem dX9_note_44 : decode cX9_note 44 = .ok (.iconst 1, 1) := by decide +kernel
theorem dX9_note_45 : decode cX9_note 45 = .ok (.isub, 1) := by decide +kernel
theorem dX9_note_46 : decode cX9_note 46 = .ok (.putfield 112, 3) := by decide +kernel
theorem dX9_note_49 : decode cX9_note 49 = .ok (.iconst 0, 1) := by decide +kernel
theorem dX9_note_50 : decode cX9_note 50 = .ok (.istore_n 1, 1) := by decide +kernel
theorem dX9_note_51 : decode cX9_note 51 = .ok (.iload_n 1, 1) := by decide +kernel
theorem dX9_note_52 : decode cX9_note 52 = .ok (.bipush 23, 2) := by decide +kernel
theorem dX9_note_54 : decode cX9_note 54 = .ok (.if_icmp .ge 29, 3) := by decide +kernel
theorem dX9_note_57 : decode cX9_note 57 = .ok (.aload_n 0, 1) := by decide +kernel
theorem dX9_note_58 : decode cX9_note 58 = .ok (.getfield 34, 3) := by decide +kernel
theorem dX9_note_61 : decode cX9_note 61 = .ok (.bipush 23, 2) := by decide +kernel
theorem dX9_note_63 : decode cX9_note 63 = .ok (.aload_n 0, 1) := by decide +kernel
theorem dX9_note_64 : decode cX9_note 64 = .ok (.getfield 112, 3) := by decide +kernel
theorem dX9_note_67 : decode cX9_note 67 = .ok (.imul, 1) := by decide +kernel
theorem dX9_note_68 : decode cX9_note 68 = .ok (.iload_n 1, 1) := by decide +kernel
theorem dX9_note_69 : decode cX9_note 69 = .ok (.iadd, 1) := by decide +kernel
theorem dX9_note_70 : decode cX9_note 70 = .ok (.aload_n 0, 1) := by decide +kernel
theorem dX9_note_71 : decode cX9_note 71 = .ok (.getfield 28, 3) := by decide +kernel
theorem dX9_note_74 : decode cX9_note 74 = .ok (.iload_n 1, 1) := by decide +kernel
theorem dX9_note_75 : decode cX9_note 75 = .ok (.iaload, 1) := by decide +kernel
theorem dX9_note_76 : decode cX9_note 76 = .ok (.iastore, 1) := by decide +kernel
theorem dX9_note_77 : decode cX9_note 77 = .ok (.iinc 1 1, 3) := by decide +kernel
theorem dX9_note_80 : decode cX9_note 80 = .ok (.goto (-29), 3) := by decide +kernel
theorem dX9_note_83 : decode cX9_note 83 = .ok (.aload_n 0, 1) := by decide +kernel
theorem dX9_note_84 : decode cX9_note 84 = .ok (.dup, 1) := by decide +kernel
theorem dX9_note_85 : decode cX9_note 85 = .ok (.getfield 112, 3) := by decide +kernel
theorem dX9_note_88 : decode cX9_note 88 = .ok (.iconst 1, 1) := by decide +kernel
theorem dX9_note_89 : decode cX9_note 89 = .ok (.iadd, 1) := by decide +kernel
theorem dX9_note_90 : decode cX9_note 90 = .ok (.putfield 112, 3) := by decide +kernel
theorem dX9_note_93 : decode cX9_note 93 = .ok (.return_, 1) := by decide +kernel
theorem dX9_day_0 : decode cX9_day 0 = .ok (.aload_n 0, 1) := by decide +kernel
theorem dX9_day_1 : decode cX9_day 1 = .ok (.iconst 0, 1) := by decide +kernel
theorem dX9_day_2 : decode cX9_day 2 = .ok (.putfield 59, 3) := by decide +kernel
theorem dX9_day_5 : decode cX9_day 5 = .ok (.aload_n 0, 1) := by decide +kernel
theorem dX9_day_6 : decode cX9_day 6 = .ok (.bipush 7, 2) := by decide +kernel
theorem dX9_day_8 : decode cX9_day 8 = .ok (.putfield 141, 3) := by decide +kernel
theorem dX9_day_11 : decode cX9_day 11 = .ok (.aload_n 0, 1) := by decide +kernel
theorem dX9_day_12 : decode cX9_day 12 = .ok (.invokevirtual 173, 3) := by decide +kernel
theorem dX9_day_15 : decode cX9_day 15 = .ok (.aload_n 0, 1) := by decide +kernel
theorem dX9_day_16 : decode cX9_day 16 = .ok (.aload_n 0, 1) := by decide +kernel
theorem dX9_day_17 : decode cX9_day 17 = .ok (.getfield 28, 3) := by decide +kernel
theorem dX9_day_20 : decode cX9_day 20 = .ok (.invokevirtual 155, 3) := by decide +kernel
theorem dX9_day_23 : decode cX9_day 23 = .ok (.ireturn, 1) := by decide +kernel
theorem dX9_canPut_0 : decode cX9_canPut 0 = .ok (.aload_n 1, 1) := by decide +kernel
theorem dX9_canPut_1 : decode cX9_canPut 1 = .ok (.bipush 6, 2) := by decide +kernel
theorem dX9_canPut_3 : decode cX9_canPut 3 = .ok (.iload_n 2, 1) := by decide +kernel
theorem dX9_canPut_4 : decode cX9_canPut 4 = .ok (.iadd, 1) := by decide +kernel
theorem dX9_canPut_5 : decode cX9_canPut 5 = .ok (.iaload, 1) := by decide +kernel
theorem dX9_canPut_6 : decode cX9_canPut 6 = .ok (.ifCond .ne 27, 3) := by decide +kernel
theorem dX9_canPut_9 : decode cX9_canPut 9 = .ok (.aload_n 1, 1) := by decide +kernel
theorem dX9_canPut_10 : decode cX9_canPut 10 = .ok (.iload_n 2, 1) := by decide +kernel
theorem dX9_canPut_11 : decode cX9_canPut 11 = .ok (.iaload, 1) := by decide +kernel
theorem dX9_canPut_12 : decode cX9_canPut 12 = .ok (.iload_n 3, 1) := by decide +kernel
theorem dX9_canPut_13 : decode cX9_canPut 13 = .ok (.if_icmp .eq 20, 3) := by decide +kernel
theorem dX9_canPut_16 : decode cX9_canPut 16 = .ok (.aload_n 0, 1) := by decide +kernel
theorem dX9_canPut_17 : decode cX9_canPut 17 = .ok (.aload_n 1, 1) := by decide +kernel
theorem dX9_canPut_18 : decode cX9_canPut 18 = .ok (.iload_n 3, 1) := by decide +kernel
theorem dX9_canPut_19 : decode cX9_canPut 19 = .ok (.invokevirtual 125, 3) := by decide +kernel
theorem dX9_canPut_22 : decode cX9_canPut 22 = .ok (.invokestatic 128, 3) := by decide +kernel
theorem dX9_canPut_25 : decode cX9_canPut 25 = .ok (.iconst 2, 1) := by decide +kernel
theorem dX9_canPut_26 : decode cX9_canPut 26 = .ok (.if_icmp .ge 7, 3) := by decide +kernel
theorem dX9_canPut_29 : decode cX9_canPut 29 = .ok (.iconst 1, 1) := by decide +kernel
theorem dX9_canPut_30 : decode cX9_canPut 30 = .ok (.goto 4, 3) := by decide +kernel
theorem dX9_canPut_33 : decode cX9_canPut 33 = .ok (.iconst 0, 1) := by decide +kernel
theorem dX9_canPut_34 : decode cX9_canPut 34 = .ok (.ireturn, 1) := by decide +kernel
theorem dX9_put_0 : decode cX9_put 0 = .ok (.aload_n 0, 1) := by decide +kernel
theorem dX9_put_1 : decode cX9_put 1 = .ok (.iconst 0, 1) := by decide +kernel
theorem dX9_put_2 : decode cX9_put 2 = .ok (.putfield 59, 3) := by decide +kernel
theorem dX9_put_5 : decode cX9_put 5 = .ok (.aload_n 0, 1) := by decide +kernel
theorem dX9_put_6 : decode cX9_put 6 = .ok (.iload_n 1, 1) := by decide +kernel
theorem dX9_put_7 : decode cX9_put 7 = .ok (.invokevirtual 164, 3) := by decide +kernel
theorem dX9_put_10 : decode cX9_put 10 = .ok (.ifCond .ne 15, 3) := by decide +kernel
theorem dX9_put_13 : decode cX9_put 13 = .ok (.iload_n 2, 1) := by decide +kernel
theorem dX9_put_14 : decode cX9_put 14 = .ok (.i2l, 1) := by decide +kernel
theorem dX9_put_15 : decode cX9_put 15 = .ok (.lconst 0, 1) := by decide +kernel
theorem dX9_put_16 : decode cX9_put 16 = .ok (.ldc2_w 171, 3) := by decide +kernel
theorem dX9_put_19 : decode cX9_put 19 = .ok (.invokestatic 66, 3) := by decide +kernel
theorem dX9_put_22 : decode cX9_put 22 = .ok (.ifCond .ne 5, 3) := by decide +kernel
theorem dX9_put_25 : decode cX9_put 25 = .ok (.iconst (-1), 1) := by decide +kernel
theorem dX9_put_26 : decode cX9_put 26 = .ok (.ireturn, 1) := by decide +kernel
theorem dX9_put_27 : decode cX9_put 27 = .ok (.aload_n 0, 1) := by decide +kernel
theorem dX9_put_28 : decode cX9_put 28 = .ok (.aload_n 0, 1) := by decide +kernel
theorem dX9_put_29 : decode cX9_put 29 = .ok (.getfield 28, 3) := by decide +kernel
theorem dX9_put_32 : decode cX9_put 32 = .ok (.iload_n 1, 1) := by decide +kernel
theorem dX9_put_33 : decode cX9_put 33 = .ok (.iload_n 2, 1) := by decide +kernel
theorem dX9_put_34 : decode cX9_put 34 = .ok (.invokevirtual 176, 3) := by decide +kernel
theorem dX9_put_37 : decode cX9_put 37 = .ok (.ifCond .ne 6, 3) := by decide +kernel
theorem dX9_put_40 : decode cX9_put 40 = .ok (.bipush (-3), 2) := by decide +kernel
theorem dX9_put_42 : decode cX9_put 42 = .ok (.ireturn, 1) := by decide +kernel
theorem dX9_put_43 : decode cX9_put 43 = .ok (.aload_n 0, 1) := by decide +kernel
theorem dX9_put_44 : decode cX9_put 44 = .ok (.invokevirtual 173, 3) := by decide +kernel
theorem dX9_put_47 : decode cX9_put 47 = .ok (.aload_n 0, 1) := by decide +kernel
theorem dX9_put_48 : decode cX9_put 48 = .ok (.getfield 28, 3) := by decide +kernel
theorem dX9_put_51 : decode cX9_put 51 = .ok (.iload_n 1, 1) := by decide +kernel
theorem dX9_put_52 : decode cX9_put 52 = .ok (.iaload, 1) := by decide +kernel
theorem dX9_put_53 : decode cX9_put 53 = .ok (.istore_n 3, 1) := by decide +kernel
theorem dX9_put_54 : decode cX9_put 54 = .ok (.aload_n 0, 1) := by decide +kernel
theorem dX9_put_55 : decode cX9_put 55 = .ok (.getfield 28, 3) := by decide +kernel
theorem dX9_put_58 : decode cX9_put 58 = .ok (.iload_n 1, 1) := by decide +kernel
theorem dX9_put_59 : decode cX9_put 59 = .ok (.iload_n 2, 1) := by decide +kernel
theorem dX9_put_60 : decode cX9_put 60 = .ok (.iastore, 1) := by decide +kernel
theorem dX9_put_61 : decode cX9_put 61 = .ok (.iload_n 3, 1) := by decide +kernel
theorem dX9_put_62 : decode cX9_put 62 = .ok (.ireturn, 1) := by decide +kernel
theorem dX9_goFeed_0 : decode cX9_goFeed 0 = .ok (.aload_n 0, 1) := by decide +kernel
theorem dX9_goFeed_1 : decode cX9_goFeed 1 = .ok (.bipush 21, 2) := by decide +kernel
theorem dX9_goFeed_3 : decode cX9_goFeed 3 = .ok (.aload_n 0, 1) := by decide +kernel
theorem dX9_goFeed_4 : decode cX9_goFeed 4 = .ok (.bipush 21, 2) := by decide +kernel
theorem dX9_goFeed_6 : decode cX9_goFeed 6 = .ok (.iaload, 1) := by decide +kernel
theorem dX9_goFeed_7 : decode cX9_goFeed 7 = .ok (.iload_n 1, 1) := by decide +kernel
theorem dX9_goFeed_8 : decode cX9_goFeed 8 = .ok (.iadd, 1) := by decide +kernel
theorem dX9_goFeed_9 : decode cX9_goFeed 9 = .ok (.bipush 99, 2) := by decide +kernel
theorem dX9_goFeed_11 : decode cX9_goFeed 11 = .ok (.if_icmp .le 8, 3) := by decide +kernel
theorem dX9_goFeed_14 : decode cX9_goFeed 14 = .ok (.bipush 99, 2) := by decide +kernel
theorem dX9_goFeed_16 : decode cX9_goFeed 16 = .ok (.goto 9, 3) := by decide +kernel
theorem dX9_goFeed_19 : decode cX9_goFeed 19 = .ok (.aload_n 0, 1) := by decide +kernel
theorem dX9_goFeed_20 : decode cX9_goFeed 20 = .ok (.bipush 21, 2) := by decide +kernel
theorem dX9_goFeed_22 : decode cX9_goFeed 22 = .ok (.iaload, 1) := by decide +kernel
theorem dX9_goFeed_23 : decode cX9_goFeed 23 = .ok (.iload_n 1, 1) := by decide +kernel
theorem dX9_goFeed_24 : decode cX9_goFeed 24 = .ok (.iadd, 1) := by decide +kernel
theorem dX9_goFeed_25 : decode cX9_goFeed 25 = .ok (.iastore, 1) := by decide +kernel
theorem dX9_goFeed_26 : decode cX9_goFeed 26 = .ok (.return_, 1) := by decide +kernel
theorem dX9_feed_0 : decode cX9_feed 0 = .ok (.aload_n 0, 1) := by decide +kernel
theorem dX9_feed_1 : decode cX9_feed 1 = .ok (.iconst 0, 1) := by decide +kernel
theorem dX9_feed_2 : decode cX9_feed 2 = .ok (.putfield 59, 3) := by decide +kernel
theorem dX9_feed_5 : decode cX9_feed 5 = .ok (.iload_n 1, 1) := by decide +kernel
theorem dX9_feed_6 : decode cX9_feed 6 = .ok (.i2l, 1) := by decide +kernel
theorem dX9_feed_7 : decode cX9_feed 7 = .ok (.lconst 1, 1) := by decide +kernel
theorem dX9_feed_8 : decode cX9_feed 8 = .ok (.ldc2_w 180, 3) := by decide +kernel
theorem dX9_feed_11 : decode cX9_feed 11 = .ok (.invokestatic 66, 3) := by decide +kernel
theorem dX9_feed_14 : decode cX9_feed 14 = .ok (.ifCond .ne 6, 3) := by decide +kernel
theorem dX9_feed_17 : decode cX9_feed 17 = .ok (.bipush (-2), 2) := by decide +kernel
theorem dX9_feed_19 : decode cX9_feed 19 = .ok (.ireturn, 1) := by decide +kernel
theorem dX9_feed_20 : decode cX9_feed 20 = .ok (.aload_n 0, 1) := by decide +kernel
theorem dX9_feed_21 : decode cX9_feed 21 = .ok (.invokevirtual 173, 3) := by decide +kernel
theorem dX9_feed_24 : decode cX9_feed 24 = .ok (.aload_n 0, 1) := by decide +kernel
theorem dX9_feed_25 : decode cX9_feed 25 = .ok (.getfield 28, 3) := by decide +kernel
theorem dX9_feed_28 : decode cX9_feed 28 = .ok (.iload_n 1, 1) := by decide +kernel
theorem dX9_feed_29 : decode cX9_feed 29 = .ok (.invokestatic 182, 3) := by decide +kernel
theorem dX9_feed_32 : decode cX9_feed 32 = .ok (.aload_n 0, 1) := by decide +kernel
theorem dX9_feed_33 : decode cX9_feed 33 = .ok (.getfield 28, 3) := by decide +kernel
theorem dX9_feed_36 : decode cX9_feed 36 = .ok (.bipush 21, 2) := by decide +kernel
theorem dX9_feed_38 : decode cX9_feed 38 = .ok (.iaload, 1) := by decide +kernel
theorem dX9_feed_39 : decode cX9_feed 39 = .ok (.ireturn, 1) := by decide +kernel
theorem dX9_send_0 : decode cX9_send 0 = .ok (.aload_n 0, 1) := by decide +kernel
theorem dX9_send_1 : decode cX9_send 1 = .ok (.iconst 0, 1) := by decide +kernel
theorem dX9_send_2 : decode cX9_send 2 = .ok (.putfield 59, 3) := by decide +kernel
theorem dX9_send_5 : decode cX9_send 5 = .ok (.aload_n 0, 1) := by decide +kernel
theorem dX9_send_6 : decode cX9_send 6 = .ok (.iload_n 1, 1) := by decide +kernel
theorem dX9_send_7 : decode cX9_send 7 = .ok (.invokevirtual 168, 3) := by decide +kernel
theorem dX9_send_10 : decode cX9_send 10 = .ok (.ifCond .ne 15, 3) := by decide +kernel
theorem dX9_send_13 : decode cX9_send 13 = .ok (.iload_n 2, 1) := by decide +kernel
theorem dX9_send_14 : decode cX9_send 14 = .ok (.i2l, 1) := by decide +kernel
theorem dX9_send_15 : decode cX9_send 15 = .ok (.lconst 0, 1) := by decide +kernel
theorem dX9_send_16 : decode cX9_send 16 = .ok (.ldc2_w 185, 3) := by decide +kernel
theorem dX9_send_19 : decode cX9_send 19 = .ok (.invokestatic 66, 3) := by decide +kernel
theorem dX9_send_22 : decode cX9_send 22 = .ok (.ifCond .ne 5, 3) := by decide +kernel
theorem dX9_send_25 : decode cX9_send 25 = .ok (.iconst (-1), 1) := by decide +kernel
theorem dX9_send_26 : decode cX9_send 26 = .ok (.ireturn, 1) := by decide +kernel
theorem dX9_send_27 : decode cX9_send 27 = .ok (.aload_n 0, 1) := by decide +kernel
theorem dX9_send_28 : decode cX9_send 28 = .ok (.getfield 28, 3) := by decide +kernel
theorem dX9_send_31 : decode cX9_send 31 = .ok (.bipush 18, 2) := by decide +kernel
theorem dX9_send_33 : decode cX9_send 33 = .ok (.iload_n 1, 1) := by decide +kernel
theorem dX9_send_34 : decode cX9_send 34 = .ok (.iadd, 1) := by decide +kernel
theorem dX9_send_35 : decode cX9_send 35 = .ok (.iaload, 1) := by decide +kernel
theorem dX9_send_36 : decode cX9_send 36 = .ok (.istore_n 3, 1) := by decide +kernel
theorem dX9_send_37 : decode cX9_send 37 = .ok (.iload_n 3, 1) := by decide +kernel
theorem dX9_send_38 : decode cX9_send 38 = .ok (.iload_n 2, 1) := by decide +kernel
theorem dX9_send_39 : decode cX9_send 39 = .ok (.if_icmp .ne 6, 3) := by decide +kernel
theorem dX9_send_42 : decode cX9_send 42 = .ok (.bipush (-3), 2) := by decide +kernel
theorem dX9_send_44 : decode cX9_send 44 = .ok (.ireturn, 1) := by decide +kernel
theorem dX9_send_45 : decode cX9_send 45 = .ok (.aload_n 0, 1) := by decide +kernel
theorem dX9_send_46 : decode cX9_send 46 = .ok (.invokevirtual 173, 3) := by decide +kernel
theorem dX9_send_49 : decode cX9_send 49 = .ok (.aload_n 0, 1) := by decide +kernel
theorem dX9_send_50 : decode cX9_send 50 = .ok (.getfield 28, 3) := by decide +kernel
theorem dX9_send_53 : decode cX9_send 53 = .ok (.bipush 18, 2) := by decide +kernel
theorem dX9_send_55 : decode cX9_send 55 = .ok (.iload_n 1, 1) := by decide +kernel
theorem dX9_send_56 : decode cX9_send 56 = .ok (.iadd, 1) := by decide +kernel
theorem dX9_send_57 : decode cX9_send 57 = .ok (.iload_n 2, 1) := by decide +kernel
theorem dX9_send_58 : decode cX9_send 58 = .ok (.iastore, 1) := by decide +kernel
theorem dX9_send_59 : decode cX9_send 59 = .ok (.iload_n 3, 1) := by decide +kernel
theorem dX9_send_60 : decode cX9_send 60 = .ok (.ireturn, 1) := by decide +kernel
theorem dX9_undo_0 : decode cX9_undo 0 = .ok (.aload_n 0, 1) := by decide +kernel
theorem dX9_undo_1 : decode cX9_undo 1 = .ok (.iconst 0, 1) := by decide +kernel
theorem dX9_undo_2 : decode cX9_undo 2 = .ok (.putfield 59, 3) := by decide +kernel
theorem dX9_undo_5 : decode cX9_undo 5 = .ok (.aload_n 0, 1) := by decide +kernel
theorem dX9_undo_6 : decode cX9_undo 6 = .ok (.getfield 112, 3) := by decide +kernel
theorem dX9_undo_9 : decode cX9_undo 9 = .ok (.ifCond .ne 6, 3) := by decide +kernel
theorem dX9_undo_12 : decode cX9_undo 12 = .ok (.bipush (-3), 2) := by decide +kernel
theorem dX9_undo_14 : decode cX9_undo 14 = .ok (.ireturn, 1) := by decide +kernel
theorem dX9_undo_15 : decode cX9_undo 15 = .ok (.aload_n 0, 1) := by decide +kernel
theorem dX9_undo_16 : decode cX9_undo 16 = .ok (.dup, 1) := by decide +kernel
theorem dX9_undo_17 : decode cX9_undo 17 = .ok (.getfield 112, 3) := by decide +kernel
theorem dX9_undo_20 : decode cX9_undo 20 = .ok (.iconst 1, 1) := by decide +kernel
theorem dX9_undo_21 : decode cX9_undo 21 = .ok (.isub, 1) := by decide +kernel
theorem dX9_undo_22 : decode cX9_undo 22 = .ok (.putfield 112, 3) := by decide +kernel
theorem dX9_undo_25 : decode cX9_undo 25 = .ok (.iconst 0, 1) := by decide +kernel
theorem dX9_undo_26 : decode cX9_undo 26 = .ok (.istore_n 1, 1) := by decide +kernel
