theorem dX0_init_0 : decode cX0_init 0 = .ok (.aload_n 0, 1) := by decide +kernel
theorem dX0_init_1 : decode cX0_init 1 = .ok (.invokespecial 3, 3) := by decide +kernel
theorem dX0_init_4 : decode cX0_init 4 = .ok (.aload_n 0, 1) := by decide +kernel
theorem dX0_init_5 : decode cX0_init 5 = .ok (.iconst 5, 1) := by decide +kernel
theorem dX0_init_6 : decode cX0_init 6 = .ok (.newarray .int, 2) := by decide +kernel
theorem dX0_init_8 : decode cX0_init 8 = .ok (.putfield 9, 3) := by decide +kernel
theorem dX0_init_11 : decode cX0_init 11 = .ok (.aload_n 0, 1) := by decide +kernel
theorem dX0_init_12 : decode cX0_init 12 = .ok (.iconst 5, 1) := by decide +kernel
theorem dX0_init_13 : decode cX0_init 13 = .ok (.newarray .int, 2) := by decide +kernel
theorem dX0_init_15 : decode cX0_init 15 = .ok (.putfield 15, 3) := by decide +kernel
theorem dX0_init_18 : decode cX0_init 18 = .ok (.aload_n 0, 1) := by decide +kernel
theorem dX0_init_19 : decode cX0_init 19 = .ok (.iconst 5, 1) := by decide +kernel
theorem dX0_init_20 : decode cX0_init 20 = .ok (.newarray .int, 2) := by decide +kernel
theorem dX0_init_22 : decode cX0_init 22 = .ok (.putfield 18, 3) := by decide +kernel
theorem dX0_init_25 : decode cX0_init 25 = .ok (.aload_n 0, 1) := by decide +kernel
theorem dX0_init_26 : decode cX0_init 26 = .ok (.bipush 8, 2) := by decide +kernel
theorem dX0_init_28 : decode cX0_init 28 = .ok (.newarray .int, 2) := by decide +kernel
theorem dX0_init_30 : decode cX0_init 30 = .ok (.putfield 21, 3) := by decide +kernel
theorem dX0_init_33 : decode cX0_init 33 = .ok (.aload_n 0, 1) := by decide +kernel
theorem dX0_init_34 : decode cX0_init 34 = .ok (.bipush 8, 2) := by decide +kernel
theorem dX0_init_36 : decode cX0_init 36 = .ok (.newarray .int, 2) := by decide +kernel
theorem dX0_init_38 : decode cX0_init 38 = .ok (.putfield 24, 3) := by decide +kernel
theorem dX0_init_41 : decode cX0_init 41 = .ok (.return_, 1) := by decide +kernel
theorem dX0_findBest_0 : decode cX0_findBest 0 = .ok (.aload_n 0, 1) := by decide +kernel
theorem dX0_findBest_1 : decode cX0_findBest 1 = .ok (.iconst 0, 1) := by decide +kernel
theorem dX0_findBest_2 : decode cX0_findBest 2 = .ok (.putfield 27, 3) := by decide +kernel
theorem dX0_findBest_5 : decode cX0_findBest 5 = .ok (.iconst 0, 1) := by decide +kernel
theorem dX0_findBest_6 : decode cX0_findBest 6 = .ok (.istore 5, 2) := by decide +kernel
theorem dX0_findBest_8 : decode cX0_findBest 8 = .ok (.iload 5, 2) := by decide +kernel
theorem dX0_findBest_10 : decode cX0_findBest 10 = .ok (.bipush 20, 2) := by decide +kernel
theorem dX0_findBest_12 : decode cX0_findBest 12 = .ok (.if_icmp .ge 57, 3) := by decide +kernel
theorem dX0_findBest_15 : decode cX0_findBest 15 = .ok (.aload_n 0, 1) := by decide +kernel
theorem dX0_findBest_16 : decode cX0_findBest 16 = .ok (.getfield 27, 3) := by decide +kernel
theorem dX0_findBest_19 : decode cX0_findBest 19 = .ok (.iconst 5, 1) := by decide +kernel
theorem dX0_findBest_20 : decode cX0_findBest 20 = .ok (.if_icmp .ge 49, 3) := by decide +kernel
theorem dX0_findBest_23 : decode cX0_findBest 23 = .ok (.iload_n 2, 1) := by decide +kernel
theorem dX0_findBest_24 : decode cX0_findBest 24 = .ok (.iload 5, 2) := by decide +kernel
theorem dX0_findBest_26 : decode cX0_findBest 26 = .ok (.ishr, 1) := by decide +kernel
theorem dX0_findBest_27 : decode cX0_findBest 27 = .ok (.iconst 1, 1) := by decide +kernel
theorem dX0_findBest_28 : decode cX0_findBest 28 = .ok (.iand, 1) := by decide +kernel
theorem dX0_findBest_29 : decode cX0_findBest 29 = .ok (.iconst 1, 1) := by decide +kernel
theorem dX0_findBest_30 : decode cX0_findBest 30 = .ok (.if_icmp .ne 33, 3) := by decide +kernel
theorem dX0_findBest_33 : decode cX0_findBest 33 = .ok (.aload_n 1, 1) := by decide +kernel
theorem dX0_findBest_34 : decode cX0_findBest 34 = .ok (.iload 5, 2) := by decide +kernel
theorem dX0_findBest_36 : decode cX0_findBest 36 = .ok (.invokevirtual 31, 3) := by decide +kernel
theorem dX0_findBest_39 : decode cX0_findBest 39 = .ok (.ifCond .eq 24, 3) := by decide +kernel
theorem dX0_findBest_42 : decode cX0_findBest 42 = .ok (.aload_n 0, 1) := by decide +kernel
theorem dX0_findBest_43 : decode cX0_findBest 43 = .ok (.getfield 9, 3) := by decide +kernel
theorem dX0_findBest_46 : decode cX0_findBest 46 = .ok (.aload_n 0, 1) := by decide +kernel
theorem dX0_findBest_47 : decode cX0_findBest 47 = .ok (.getfield 27, 3) := by decide +kernel
theorem dX0_findBest_50 : decode cX0_findBest 50 = .ok (.iload 5, 2) := by decide +kernel
theorem dX0_findBest_52 : decode cX0_findBest 52 = .ok (.iastore, 1) := by decide +kernel
theorem dX0_findBest_53 : decode cX0_findBest 53 = .ok (.aload_n 0, 1) := by decide +kernel
theorem dX0_findBest_54 : decode cX0_findBest 54 = .ok (.dup, 1) := by decide +kernel
theorem dX0_findBest_55 : decode cX0_findBest 55 = .ok (.getfield 27, 3) := by decide +kernel
theorem dX0_findBest_58 : decode cX0_findBest 58 = .ok (.iconst 1, 1) := by decide +kernel
theorem dX0_findBest_59 : decode cX0_findBest 59 = .ok (.iadd, 1) := by decide +kernel
theorem dX0_findBest_60 : decode cX0_findBest 60 = .ok (.putfield 27, 3) := by decide +kernel
theorem dX0_findBest_63 : decode cX0_findBest 63 = .ok (.iinc 5 1, 3) := by decide +kernel
theorem dX0_findBest_66 : decode cX0_findBest 66 = .ok (.goto (-58), 3) := by decide +kernel
theorem dX0_findBest_69 : decode cX0_findBest 69 = .ok (.aload_n 0, 1) := by decide +kernel
theorem dX0_findBest_70 : decode cX0_findBest 70 = .ok (.iload_n 3, 1) := by decide +kernel
theorem dX0_findBest_71 : decode cX0_findBest 71 = .ok (.putfield 37, 3) := by decide +kernel
theorem dX0_findBest_74 : decode cX0_findBest 74 = .ok (.aload_n 0, 1) := by decide +kernel
theorem dX0_findBest_75 : decode cX0_findBest 75 = .ok (.iconst 0, 1) := by decide +kernel
theorem dX0_findBest_76 : decode cX0_findBest 76 = .ok (.putfield 40, 3) := by decide +kernel
theorem dX0_findBest_79 : decode cX0_findBest 79 = .ok (.aload_n 0, 1) := by decide +kernel
theorem dX0_findBest_80 : decode cX0_findBest 80 = .ok (.aload_n 1, 1) := by decide +kernel
theorem dX0_findBest_81 : decode cX0_findBest 81 = .ok (.aload 4, 2) := by decide +kernel
theorem dX0_findBest_83 : decode cX0_findBest 83 = .ok (.iconst 0, 1) := by decide +kernel
theorem dX0_findBest_84 : decode cX0_findBest 84 = .ok (.lconst 0, 1) := by decide +kernel
theorem dX0_findBest_85 : decode cX0_findBest 85 = .ok (.invokevirtual 44, 3) := by decide +kernel
theorem dX0_findBest_88 : decode cX0_findBest 88 = .ok (.aload_n 0, 1) := by decide +kernel
theorem dX0_findBest_89 : decode cX0_findBest 89 = .ok (.getfield 40, 3) := by decide +kernel
theorem dX0_findBest_92 : decode cX0_findBest 92 = .ok (.ireturn, 1) := by decide +kernel
theorem dX0_choose_0 : decode cX0_choose 0 = .ok (.iload_n 3, 1) := by decide +kernel
theorem dX0_choose_1 : decode cX0_choose 1 = .ok (.aload_n 0, 1) := by decide +kernel
theorem dX0_choose_2 : decode cX0_choose 2 = .ok (.getfield 27, 3) := by decide +kernel
theorem dX0_choose_5 : decode cX0_choose 5 = .ok (.if_icmp .ge 8, 3) := by decide +kernel
theorem dX0_choose_8 : decode cX0_choose 8 = .ok (.iload_n 3, 1) := by decide +kernel
theorem dX0_choose_9 : decode cX0_choose 9 = .ok (.iconst 5, 1) := by decide +kernel
theorem dX0_choose_10 : decode cX0_choose 10 = .ok (.if_icmp .lt 44, 3) := by decide +kernel
theorem dX0_choose_13 : decode cX0_choose 13 = .ok (.aload_n 0, 1) := by decide +kernel
theorem dX0_choose_14 : decode cX0_choose 14 = .ok (.iconst 1, 1) := by decide +kernel
theorem dX0_choose_15 : decode cX0_choose 15 = .ok (.putfield 40, 3) := by decide +kernel
theorem dX0_choose_18 : decode cX0_choose 18 = .ok (.aload_n 0, 1) := by decide +kernel
theorem dX0_choose_19 : decode cX0_choose 19 = .ok (.lload 4, 2) := by decide +kernel
theorem dX0_choose_21 : decode cX0_choose 21 = .ok (.putfield 48, 3) := by decide +kernel
theorem dX0_choose_24 : decode cX0_choose 24 = .ok (.iconst 0, 1) := by decide +kernel
theorem dX0_choose_25 : decode cX0_choose 25 = .ok (.istore 6, 2) := by decide +kernel
theorem dX0_choose_27 : decode cX0_choose 27 = .ok (.iload 6, 2) := by decide +kernel
theorem dX0_choose_29 : decode cX0_choose 29 = .ok (.iconst 5, 1) := by decide +kernel
theorem dX0_choose_30 : decode cX0_choose 30 = .ok (.if_icmp .ge 23, 3) := by decide +kernel
theorem dX0_choose_33 : decode cX0_choose 33 = .ok (.aload_n 0, 1) := by decide +kernel
theorem dX0_choose_34 : decode cX0_choose 34 = .ok (.getfield 18, 3) := by decide +kernel
theorem dX0_choose_37 : decode cX0_choose 37 = .ok (.iload 6, 2) := by decide +kernel
theorem dX0_choose_39 : decode cX0_choose 39 = .ok (.aload_n 0, 1) := by decide +kernel
theorem dX0_choose_40 : decode cX0_choose 40 = .ok (.getfield 15, 3) := by decide +kernel
theorem dX0_choose_43 : decode cX0_choose 43 = .ok (.iload 6, 2) := by decide +kernel
theorem dX0_choose_45 : decode cX0_choose 45 = .ok (.iaload, 1) := by decide +kernel
theorem dX0_choose_46 : decode cX0_choose 46 = .ok (.iastore, 1) := by decide +kernel
theorem dX0_choose_47 : decode cX0_choose 47 = .ok (.iinc 6 1, 3) := by decide +kernel
theorem dX0_choose_50 : decode cX0_choose 50 = .ok (.goto (-23), 3) := by decide +kernel
theorem dX0_choose_53 : decode cX0_choose 53 = .ok (.return_, 1) := by decide +kernel
theorem dX0_choose_54 : decode cX0_choose 54 = .ok (.iconst 0, 1) := by decide +kernel
theorem dX0_choose_55 : decode cX0_choose 55 = .ok (.istore 6, 2) := by decide +kernel
theorem dX0_choose_57 : decode cX0_choose 57 = .ok (.iload 6, 2) := by decide +kernel
theorem dX0_choose_59 : decode cX0_choose 59 = .ok (.bipush 8, 2) := by decide +kernel
theorem dX0_choose_61 : decode cX0_choose 61 = .ok (.if_icmp .ge 27, 3) := by decide +kernel
theorem dX0_choose_64 : decode cX0_choose 64 = .ok (.iload 6, 2) := by decide +kernel
theorem dX0_choose_66 : decode cX0_choose 66 = .ok (.aload_n 2, 1) := by decide +kernel
theorem dX0_choose_67 : decode cX0_choose 67 = .ok (.arraylength, 1) := by decide +kernel
theorem dX0_choose_68 : decode cX0_choose 68 = .ok (.if_icmp .ge 20, 3) := by decide +kernel
theorem dX0_choose_71 : decode cX0_choose 71 = .ok (.aload_n 0, 1) := by decide +kernel
theorem dX0_choose_72 : decode cX0_choose 72 = .ok (.aload_n 1, 1) := by decide +kernel
theorem dX0_choose_73 : decode cX0_choose 73 = .ok (.aload_n 2, 1) := by decide +kernel
theorem dX0_choose_74 : decode cX0_choose 74 = .ok (.iload_n 3, 1) := by decide +kernel
theorem dX0_choose_75 : decode cX0_choose 75 = .ok (.lload 4, 2) := by decide +kernel
theorem dX0_choose_77 : decode cX0_choose 77 = .ok (.iload 6, 2) := by decide +kernel
theorem dX0_choose_79 : decode cX0_choose 79 = .ok (.invokevirtual 52, 3) := by decide +kernel
theorem dX0_choose_82 : decode cX0_choose 82 = .ok (.iinc 6 1, 3) := by decide +kernel
theorem dX0_choose_85 : decode cX0_choose 85 = .ok (.goto (-28), 3) := by decide +kernel
theorem dX0_choose_88 : decode cX0_choose 88 = .ok (.return_, 1) := by decide +kernel
theorem dX0_tryHouse_0 : decode cX0_tryHouse 0 = .ok (.iload_n 3, 1) := by decide +kernel
theorem dX0_tryHouse_1 : decode cX0_tryHouse 1 = .ok (.iconst 0, 1) := by decide +kernel
theorem dX0_tryHouse_2 : decode cX0_tryHouse 2 = .ok (.iconst 4, 1) := by decide +kernel
theorem dX0_tryHouse_3 : decode cX0_tryHouse 3 = .ok (.invokestatic 56, 3) := by decide +kernel
theorem dX0_tryHouse_6 : decode cX0_tryHouse 6 = .ok (.ifCond .eq 34, 3) := by decide +kernel
theorem dX0_tryHouse_9 : decode cX0_tryHouse 9 = .ok (.iload 6, 2) := by decide +kernel
theorem dX0_tryHouse_11 : decode cX0_tryHouse 11 = .ok (.iconst 0, 1) := by decide +kernel
theorem dX0_tryHouse_12 : decode cX0_tryHouse 12 = .ok (.bipush 7, 2) := by decide +kernel
theorem dX0_tryHouse_14 : decode cX0_tryHouse 14 = .ok (.invokestatic 56, 3) := by decide +kernel
theorem dX0_tryHouse_17 : decode cX0_tryHouse 17 = .ok (.ifCond .eq 23, 3) := by decide +kernel
theorem dX0_tryHouse_20 : decode cX0_tryHouse 20 = .ok (.iload 6, 2) := by decide +kernel
theorem dX0_tryHouse_22 : decode cX0_tryHouse 22 = .ok (.aload_n 2, 1) := by decide +kernel
theorem dX0_tryHouse_23 : decode cX0_tryHouse 23 = .ok (.arraylength, 1) := by decide +kernel
theorem dX0_tryHouse_24 : decode cX0_tryHouse 24 = .ok (.if_icmp .ge 16, 3) := by decide +kernel
theorem dX0_tryHouse_27 : decode cX0_tryHouse 27 = .ok (.aload_n 1, 1) := by decide +kernel
theorem dX0_tryHouse_28 : decode cX0_tryHouse 28 = .ok (.aload_n 0, 1) := by decide +kernel
theorem dX0_tryHouse_29 : decode cX0_tryHouse 29 = .ok (.getfield 9, 3) := by decide +kernel
theorem dX0_tryHouse_32 : decode cX0_tryHouse 32 = .ok (.iload_n 3, 1) := by decide +kernel
theorem dX0_tryHouse_33 : decode cX0_tryHouse 33 = .ok (.iaload, 1) := by decide +kernel
theorem dX0_tryHouse_34 : decode cX0_tryHouse 34 = .ok (.invokevirtual 31, 3) := by decide +kernel
theorem dX0_tryHouse_37 : decode cX0_tryHouse 37 = .ok (.ifCond .ne 4, 3) := by decide +kernel
theorem dX0_tryHouse_40 : decode cX0_tryHouse 40 = .ok (.return_, 1) := by decide +kernel
theorem dX0_tryHouse_41 : decode cX0_tryHouse 41 = .ok (.aload_n 1, 1) := by decide +kernel
theorem dX0_tryHouse_42 : decode cX0_tryHouse 42 = .ok (.getfield 60, 3) := by decide +kernel
theorem dX0_tryHouse_45 : decode cX0_tryHouse 45 = .ok (.aload_n 0, 1) := by decide +kernel
theorem dX0_tryHouse_46 : decode cX0_tryHouse 46 = .ok (.getfield 9, 3) := by decide +kernel
theorem dX0_tryHouse_49 : decode cX0_tryHouse 49 = .ok (.iload_n 3, 1) := by decide +kernel
theorem dX0_tryHouse_50 : decode cX0_tryHouse 50 = .ok (.iaload, 1) := by decide +kernel
theorem dX0_tryHouse_51 : decode cX0_tryHouse 51 = .ok (.aaload, 1) := by decide +kernel
theorem dX0_tryHouse_52 : decode cX0_tryHouse 52 = .ok (.astore 7, 2) := by decide +kernel
theorem dX0_tryHouse_54 : decode cX0_tryHouse 54 = .ok (.aload 7, 2) := by decide +kernel
theorem dX0_tryHouse_56 : decode cX0_tryHouse 56 = .ok (.iload 6, 2) := by decide +kernel
theorem dX0_tryHouse_58 : decode cX0_tryHouse 58 = .ok (.invokevirtual 63, 3) := by decide +kernel
theorem dX0_tryHouse_61 : decode cX0_tryHouse 61 = .ok (.ifCond .eq 52, 3) := by decide +kernel
theorem dX0_tryHouse_64 : decode cX0_tryHouse 64 = .ok (.aload_n 0, 1) := by decide +kernel
theorem dX0_tryHouse_65 : decode cX0_tryHouse 65 = .ok (.getfield 21, 3) := by decide +kernel
theorem dX0_tryHouse_68 : decode cX0_tryHouse 68 = .ok (.iload 6, 2) := by decide +kernel
theorem dX0_tryHouse_70 : decode cX0_tryHouse 70 = .ok (.iaload, 1) := by decide +kernel
theorem dX0_tryHouse_71 : decode cX0_tryHouse 71 = .ok (.aload 7, 2) := by decide +kernel
theorem dX0_tryHouse_73 : decode cX0_tryHouse 73 = .ok (.getfield 68, 3) := by decide +kernel
theorem dX0_tryHouse_76 : decode cX0_tryHouse 76 = .ok (.iload 6, 2) := by decide +kernel
theorem dX0_tryHouse_78 : decode cX0_tryHouse 78 = .ok (.iaload, 1) := by decide +kernel
theorem dX0_tryHouse_79 : decode cX0_tryHouse 79 = .ok (.iadd, 1) := by decide +kernel
theorem dX0_tryHouse_80 : decode cX0_tryHouse 80 = .ok (.aload_n 0, 1) := by decide +kernel
theorem dX0_tryHouse_81 : decode cX0_tryHouse 81 = .ok (.getfield 37, 3) := by decide +kernel
theorem dX0_tryHouse_84 : decode cX0_tryHouse 84 = .ok (.if_icmp .gt 29, 3) := by decide +kernel
theorem dX0_tryHouse_87 : decode cX0_tryHouse 87 = .ok (.aload_n 0, 1) := by decide +kernel
theorem dX0_tryHouse_88 : decode cX0_tryHouse 88 = .ok (.getfield 24, 3) := by decide +kernel
theorem dX0_tryHouse_91 : decode cX0_tryHouse 91 = .ok (.iload 6, 2) := by decide +kernel
theorem dX0_tryHouse_93 : decode cX0_tryHouse 93 = .ok (.iaload, 1) := by decide +kernel
theorem dX0_tryHouse_94 : decode cX0_tryHouse 94 = .ok (.aload 7, 2) := by decide +kernel
theorem dX0_tryHouse_96 : decode cX0_tryHouse 96 = .ok (.getfield 71, 3) := by decide +kernel
theorem dX0_tryHouse_99 : decode cX0_tryHouse 99 = .ok (.iload 6, 2) := by decide +kernel
theorem dX0_tryHouse_101 : decode cX0_tryHouse 101 = .ok (.iaload, 1) := by decide +kernel
theorem dX0_tryHouse_102 : decode cX0_tryHouse 102 = .ok (.iadd, 1) := by decide +kernel
theorem dX0_tryHouse_103 : decode cX0_tryHouse 103 = .ok (.aload_n 2, 1) := by decide +kernel
theorem dX0_tryHouse_104 : decode cX0_tryHouse 104 = .ok (.iload 6, 2) := by decide +kernel
theorem dX0_tryHouse_106 : decode cX0_tryHouse 106 = .ok (.aaload, 1) := by decide +kernel
theorem dX0_tryHouse_107 : decode cX0_tryHouse 107 = .ok (.getfield 74, 3) := by decide +kernel
theorem dX0_tryHouse_110 : decode cX0_tryHouse 110 = .ok (.if_icmp .le 4, 3) := by decide +kernel
theorem dX0_tryHouse_113 : decode cX0_tryHouse 113 = .ok (.return_, 1) := by decide +kernel
theorem dX0_tryHouse_114 : decode cX0_tryHouse 114 = .ok (.lload 4, 2) := by decide +kernel
theorem dX0_tryHouse_116 : decode cX0_tryHouse 116 = .ok (.aload 7, 2) := by decide +kernel
theorem dX0_tryHouse_118 : decode cX0_tryHouse 118 = .ok (.iload 6, 2) := by decide +kernel
theorem dX0_tryHouse_120 : decode cX0_tryHouse 120 = .ok (.aload_n 2, 1) := by decide +kernel
theorem dX0_tryHouse_121 : decode cX0_tryHouse 121 = .ok (.iload 6, 2) := by decide +kernel
theorem dX0_tryHouse_123 : decode cX0_tryHouse 123 = .ok (.aaload, 1) := by decide +kernel
theorem dX0_tryHouse_124 : decode cX0_tryHouse 124 = .ok (.invokevirtual 79, 3) := by decide +kernel
theorem dX0_tryHouse_127 : decode cX0_tryHouse 127 = .ok (.ladd, 1) := by decide +kernel
theorem dX0_tryHouse_128 : decode cX0_tryHouse 128 = .ok (.lstore 8, 2) := by decide +kernel
theorem dX0_tryHouse_130 : decode cX0_tryHouse 130 = .ok (.aload_n 0, 1) := by decide +kernel
theorem dX0_tryHouse_131 : decode cX0_tryHouse 131 = .ok (.getfield 40, 3) := by decide +kernel
theorem dX0_tryHouse_134 : decode cX0_tryHouse 134 = .ok (.ifCond .eq 14, 3) := by decide +kernel
theorem dX0_tryHouse_137 : decode cX0_tryHouse 137 = .ok (.lload 8, 2) := by decide +kernel
theorem dX0_tryHouse_139 : decode cX0_tryHouse 139 = .ok (.aload_n 0, 1) := by decide +kernel
theorem dX0_tryHouse_140 : decode cX0_tryHouse 140 = .ok (.getfield 48, 3) := by decide +kernel
theorem dX0_tryHouse_143 : decode cX0_tryHouse 143 = .ok (.lcmp, 1) := by decide +kernel
theorem dX0_tryHouse_144 : decode cX0_tryHouse 144 = .ok (.ifCond .lt 4, 3) := by decide +kernel
theorem dX0_tryHouse_147 : decode cX0_tryHouse 147 = .ok (.return_, 1) := by decide +kernel
theorem dX0_tryHouse_148 : decode cX0_tryHouse 148 = .ok (.aload_n 0, 1) := by decide +kernel
theorem dX0_tryHouse_149 : decode cX0_tryHouse 149 = .ok (.getfield 15, 3) := by decide +kernel
theorem dX0_tryHouse_152 : decode cX0_tryHouse 152 = .ok (.iload_n 3, 1) := by decide +kernel
theorem dX0_tryHouse_153 : decode cX0_tryHouse 153 = .ok (.iload 6, 2) := by decide +kernel
theorem dX0_tryHouse_155 : decode cX0_tryHouse 155 = .ok (.iastore, 1) := by decide +kernel
theorem dX0_tryHouse_156 : decode cX0_tryHouse 156 = .ok (.aload_n 0, 1) := by decide +kernel
theorem dX0_tryHouse_157 : decode cX0_tryHouse 157 = .ok (.getfield 21, 3) := by decide +kernel
theorem dX0_tryHouse_160 : decode cX0_tryHouse 160 = .ok (.iload 6, 2) := by decide +kernel
theorem dX0_tryHouse_162 : decode cX0_tryHouse 162 = .ok (.dup2, 1) := by decide +kernel
theorem dX0_tryHouse_163 : decode cX0_tryHouse 163 = .ok (.iaload, 1) := by decide +kernel
theorem dX0_tryHouse_164 : decode cX0_tryHouse 164 = .ok (.aload 7, 2) := by decide +kernel
theorem dX0_tryHouse_166 : decode cX0_tryHouse 166 = .ok (.getfield 68, 3) := by decide +kernel
theorem dX0_tryHouse_169 : decode cX0_tryHouse 169 = .ok (.iload 6, 2) := by decide +kernel
theorem dX0_tryHouse_171 : decode cX0_tryHouse 171 = .ok (.iaload, 1) := by decide +kernel
theorem dX0_tryHouse_172 : decode cX0_tryHouse 172 = .ok (.iadd, 1) := by decide +kernel
theorem dX0_tryHouse_173 : decode cX0_tryHouse 173 = .ok (.iastore, 1) := by decide +kernel
theorem dX0_tryHouse_174 : decode cX0_tryHouse 174 = .ok (.aload_n 0, 1) := by decide +kernel
theorem dX0_tryHouse_175 : decode cX0_tryHouse 175 = .ok (.getfield 24, 3) := by decide +kernel
theorem dX0_tryHouse_178 : decode cX0_tryHouse 178 = .ok (.iload 6, 2) := by decide +kernel
theorem dX0_tryHouse_180 : decode cX0_tryHouse 180 = .ok (.dup2, 1) := by decide +kernel
theorem dX0_tryHouse_181 : decode cX0_tryHouse 181 = .ok (.iaload, 1) := by decide +kernel
theorem dX0_tryHouse_182 : decode cX0_tryHouse 182 = .ok (.aload 7, 2) := by decide +kernel
theorem dX0_tryHouse_184 : decode cX0_tryHouse 184 = .ok (.getfield 71, 3) := by decide +kernel
theorem dX0_tryHouse_187 : decode cX0_tryHouse 187 = .ok (.iload 6, 2) := by decide +kernel
theorem dX0_tryHouse_189 : decode cX0_tryHouse 189 = .ok (.iaload, 1) := by decide +kernel
theorem dX0_tryHouse_190 : decode cX0_tryHouse 190 = .ok (.iadd, 1) := by decide +kernel
theorem dX0_tryHouse_191 : decode cX0_tryHouse 191 = .ok (.iastore, 1) := by decide +kernel
theorem dX0_tryHouse_192 : decode cX0_tryHouse 192 = .ok (.aload_n 0, 1) := by decide +kernel
theorem dX0_tryHouse_193 : decode cX0_tryHouse 193 = .ok (.aload_n 1, 1) := by decide +kernel
theorem dX0_tryHouse_194 : decode cX0_tryHouse 194 = .ok (.aload_n 2, 1) := by decide +kernel
theorem dX0_tryHouse_195 : decode cX0_tryHouse 195 = .ok (.iload_n 3, 1) := by decide +kernel
theorem dX0_tryHouse_196 : decode cX0_tryHouse 196 = .ok (.iconst 1, 1) := by decide +kernel
theorem dX0_tryHouse_197 : decode cX0_tryHouse 197 = .ok (.iadd, 1) := by decide +kernel
theorem dX0_tryHouse_198 : decode cX0_tryHouse 198 = .ok (.lload 8, 2) := by decide +kernel
theorem dX0_tryHouse_200 : decode cX0_tryHouse 200 = .ok (.invokevirtual 44, 3) := by decide +kernel
theorem dX0_tryHouse_203 : decode cX0_tryHouse 203 = .ok (.aload_n 0, 1) := by decide +kernel
theorem dX0_tryHouse_204 : decode cX0_tryHouse 204 = .ok (.getfield 21, 3) := by decide +kernel
theorem dX0_tryHouse_207 : decode cX0_tryHouse 207 = .ok (.iload 6, 2) := by decide +kernel
theorem dX0_tryHouse_209 : decode cX0_tryHouse 209 = .ok (.dup2, 1) := by decide +kernel
theorem dX0_tryHouse_210 : decode cX0_tryHouse 210 = .ok (.iaload, 1) := by decide +kernel
theorem dX0_tryHouse_211 : decode cX0_tryHouse 211 = .ok (.aload 7, 2) := by decide +kernel
theorem dX0_tryHouse_213 : decode cX0_tryHouse 213 = .ok (.getfield 68, 3) := by decide +kernel
theorem dX0_tryHouse_216 : decode cX0_tryHouse 216 = .ok (.iload 6, 2) := by decide +kernel
theorem dX0_tryHouse_218 : decode cX0_tryHouse 218 = .ok (.iaload, 1) := by decide +kernel
theorem dX0_tryHouse_219 : decode cX0_tryHouse 219 = .ok (.isub, 1) := by decide +kernel
theorem dX0_tryHouse_220 : decode cX0_tryHouse 220 = .ok (.iastore, 1) := by decide +kernel
theorem dX0_tryHouse_221 : decode cX0_tryHouse 221 = .ok (.aload_n 0, 1) := by decide +kernel
theorem dX0_tryHouse_222 : decode cX0_tryHouse 222 = .ok (.getfield 24, 3) := by decide +kernel
theorem dX0_tryHouse_225 : decode cX0_tryHouse 225 = .ok (.iload 6, 2) := by decide +kernel
theorem dX0_tryHouse_227 : decode cX0_tryHouse 227 = .ok (.dup2, 1) := by decide +kernel
theorem dX0_tryHouse_228 : decode cX0_tryHouse 228 = .ok (.iaload, 1) := by decide +kernel
theorem dX0_tryHouse_229 : decode cX0_tryHouse 229 = .ok (.aload 7, 2) := by decide +kernel
theorem dX0_tryHouse_231 : decode cX0_tryHouse 231 = .ok (.getfield 71, 3) := by decide +kernel
theorem dX0_tryHouse_234 : decode cX0_tryHouse 234 = .ok (.iload 6, 2) := by decide +kernel
theorem dX0_tryHouse_236 : decode cX0_tryHouse 236 = .ok (.iaload, 1) := by decide +kernel
theorem dX0_tryHouse_237 : decode cX0_tryHouse 237 = .ok (.isub, 1) := by decide +kernel
theorem dX0_tryHouse_238 : decode cX0_tryHouse 238 = .ok (.iastore, 1) := by decide +kernel
theorem dX0_tryHouse_239 : decode cX0_tryHouse 239 = .ok (.return_, 1) := by decide +kernel
theorem dX0_houseFor_0 : decode cX0_houseFor 0 = .ok (.iconst 0, 1) := by decide +kernel
theorem dX0_houseFor_1 : decode cX0_houseFor 1 = .ok (.istore_n 2, 1) := by decide +kernel
theorem dX0_houseFor_2 : decode cX0_houseFor 2 = .ok (.iload_n 2, 1) := by decide +kernel
theorem dX0_houseFor_3 : decode cX0_houseFor 3 = .ok (.aload_n 0, 1) := by decide +kernel
theorem dX0_houseFor_4 : decode cX0_houseFor 4 = .ok (.getfield 27, 3) := by decide +kernel
theorem dX0_houseFor_7 : decode cX0_houseFor 7 = .ok (.if_icmp .ge 31, 3) := by decide +kernel
theorem dX0_houseFor_10 : decode cX0_houseFor 10 = .ok (.iload_n 2, 1) := by decide +kernel
theorem dX0_houseFor_11 : decode cX0_houseFor 11 = .ok (.iconst 5, 1) := by decide +kernel
theorem dX0_houseFor_12 : decode cX0_houseFor 12 = .ok (.if_icmp .ge 26, 3) := by decide +kernel
theorem dX0_houseFor_15 : decode cX0_houseFor 15 = .ok (.aload_n 0, 1) := by decide +kernel
theorem dX0_houseFor_16 : decode cX0_houseFor 16 = .ok (.getfield 9, 3) := by decide +kernel
theorem dX0_houseFor_19 : decode cX0_houseFor 19 = .ok (.iload_n 2, 1) := by decide +kernel
theorem dX0_houseFor_20 : decode cX0_houseFor 20 = .ok (.iaload, 1) := by decide +kernel
theorem dX0_houseFor_21 : decode cX0_houseFor 21 = .ok (.iload_n 1, 1) := by decide +kernel
theorem dX0_houseFor_22 : decode cX0_houseFor 22 = .ok (.if_icmp .ne 10, 3) := by decide +kernel
theorem dX0_houseFor_25 : decode cX0_houseFor 25 = .ok (.aload_n 0, 1) := by decide +kernel
theorem dX0_houseFor_26 : decode cX0_houseFor 26 = .ok (.getfield 18, 3) := by decide +kernel
theorem dX0_houseFor_29 : decode cX0_houseFor 29 = .ok (.iload_n 2, 1) := by decide +kernel
theorem dX0_houseFor_30 : decode cX0_houseFor 30 = .ok (.iaload, 1) := by decide +kernel
theorem dX0_houseFor_31 : decode cX0_houseFor 31 = .ok (.ireturn, 1) := by decide +kernel
theorem dX0_houseFor_32 : decode cX0_houseFor 32 = .ok (.iinc 2 1, 3) := by decide +kernel
theorem dX0_houseFor_35 : decode cX0_houseFor 35 = .ok (.goto (-33), 3) := by decide +kernel
theorem dX0_houseFor_38 : decode cX0_houseFor 38 = .ok (.iconst (-1), 1) := by decide +kernel
theorem dX0_houseFor_39 : decode cX0_houseFor 39 = .ok (.ireturn, 1) := by decide +kernel
