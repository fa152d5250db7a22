theorem dX11_sum_0 : decode cX11_sum 0 = .ok (.aload_n 0, 1) := by decide +kernel
theorem dX11_sum_1 : decode cX11_sum 1 = .ok (.iload_n 1, 1) := by decide +kernel
theorem dX11_sum_2 : decode cX11_sum 2 = .ok (.invokevirtual 284, 3) := by decide +kernel
theorem dX11_sum_5 : decode cX11_sum 5 = .ok (.ifCond .eq 27, 3) := by decide +kernel
theorem dX11_sum_8 : decode cX11_sum 8 = .ok (.aload_n 0, 1) := by decide +kernel
theorem dX11_sum_9 : decode cX11_sum 9 = .ok (.iload_n 2, 1) := by decide +kernel
theorem dX11_sum_10 : decode cX11_sum 10 = .ok (.iconst 0, 1) := by decide +kernel
theorem dX11_sum_11 : decode cX11_sum 11 = .ok (.sipush 20000, 3) := by decide +kernel
theorem dX11_sum_14 : decode cX11_sum 14 = .ok (.invokestatic 276, 3) := by decide +kernel
theorem dX11_sum_17 : decode cX11_sum 17 = .ok (.ifCond .ne 7, 3) := by decide +kernel
theorem dX11_sum_20 : decode cX11_sum 20 = .ok (.iconst 1, 1) := by decide +kernel
theorem dX11_sum_21 : decode cX11_sum 21 = .ok (.goto 4, 3) := by decide +kernel
theorem dX11_sum_24 : decode cX11_sum 24 = .ok (.iconst 0, 1) := by decide +kernel
theorem dX11_sum_25 : decode cX11_sum 25 = .ok (.iconst 2, 1) := by decide +kernel
theorem dX11_sum_26 : decode cX11_sum 26 = .ok (.invokevirtual 280, 3) := by decide +kernel
theorem dX11_sum_29 : decode cX11_sum 29 = .ok (.ifCond .eq 7, 3) := by decide +kernel
theorem dX11_sum_32 : decode cX11_sum 32 = .ok (.iconst 0, 1) := by decide +kernel
theorem dX11_sum_33 : decode cX11_sum 33 = .ok (.goto 9, 3) := by decide +kernel
theorem dX11_sum_36 : decode cX11_sum 36 = .ok (.aload_n 0, 1) := by decide +kernel
theorem dX11_sum_37 : decode cX11_sum 37 = .ok (.iload_n 1, 1) := by decide +kernel
theorem dX11_sum_38 : decode cX11_sum 38 = .ok (.iload_n 2, 1) := by decide +kernel
theorem dX11_sum_39 : decode cX11_sum 39 = .ok (.invokevirtual 324, 3) := by decide +kernel
theorem dX11_sum_42 : decode cX11_sum 42 = .ok (.ireturn, 1) := by decide +kernel
theorem dX11_beside_0 : decode cX11_beside 0 = .ok (.aload_n 0, 1) := by decide +kernel
theorem dX11_beside_1 : decode cX11_beside 1 = .ok (.iload_n 1, 1) := by decide +kernel
theorem dX11_beside_2 : decode cX11_beside 2 = .ok (.invokevirtual 284, 3) := by decide +kernel
theorem dX11_beside_5 : decode cX11_beside 5 = .ok (.ifCond .eq 47, 3) := by decide +kernel
theorem dX11_beside_8 : decode cX11_beside 8 = .ok (.aload_n 0, 1) := by decide +kernel
theorem dX11_beside_9 : decode cX11_beside 9 = .ok (.iload_n 2, 1) := by decide +kernel
theorem dX11_beside_10 : decode cX11_beside 10 = .ok (.iconst 0, 1) := by decide +kernel
theorem dX11_beside_11 : decode cX11_beside 11 = .ok (.sipush 20000, 3) := by decide +kernel
theorem dX11_beside_14 : decode cX11_beside 14 = .ok (.invokestatic 276, 3) := by decide +kernel
theorem dX11_beside_17 : decode cX11_beside 17 = .ok (.ifCond .eq 23, 3) := by decide +kernel
theorem dX11_beside_20 : decode cX11_beside 20 = .ok (.iload_n 3, 1) := by decide +kernel
theorem dX11_beside_21 : decode cX11_beside 21 = .ok (.iconst 0, 1) := by decide +kernel
theorem dX11_beside_22 : decode cX11_beside 22 = .ok (.bipush 15, 2) := by decide +kernel
theorem dX11_beside_24 : decode cX11_beside 24 = .ok (.invokestatic 276, 3) := by decide +kernel
theorem dX11_beside_27 : decode cX11_beside 27 = .ok (.ifCond .eq 13, 3) := by decide +kernel
theorem dX11_beside_30 : decode cX11_beside 30 = .ok (.iload 4, 2) := by decide +kernel
theorem dX11_beside_32 : decode cX11_beside 32 = .ok (.iconst 0, 1) := by decide +kernel
theorem dX11_beside_33 : decode cX11_beside 33 = .ok (.iconst 3, 1) := by decide +kernel
theorem dX11_beside_34 : decode cX11_beside 34 = .ok (.invokestatic 276, 3) := by decide +kernel
theorem dX11_beside_37 : decode cX11_beside 37 = .ok (.ifCond .ne 7, 3) := by decide +kernel
theorem dX11_beside_40 : decode cX11_beside 40 = .ok (.iconst 1, 1) := by decide +kernel
theorem dX11_beside_41 : decode cX11_beside 41 = .ok (.goto 4, 3) := by decide +kernel
theorem dX11_beside_44 : decode cX11_beside 44 = .ok (.iconst 0, 1) := by decide +kernel
theorem dX11_beside_45 : decode cX11_beside 45 = .ok (.iconst 2, 1) := by decide +kernel
theorem dX11_beside_46 : decode cX11_beside 46 = .ok (.invokevirtual 280, 3) := by decide +kernel
theorem dX11_beside_49 : decode cX11_beside 49 = .ok (.ifCond .eq 5, 3) := by decide +kernel
theorem dX11_beside_52 : decode cX11_beside 52 = .ok (.iconst 0, 1) := by decide +kernel
theorem dX11_beside_53 : decode cX11_beside 53 = .ok (.ireturn, 1) := by decide +kernel
theorem dX11_beside_54 : decode cX11_beside 54 = .ok (.aload_n 0, 1) := by decide +kernel
theorem dX11_beside_55 : decode cX11_beside 55 = .ok (.iload_n 1, 1) := by decide +kernel
theorem dX11_beside_56 : decode cX11_beside 56 = .ok (.iload_n 2, 1) := by decide +kernel
theorem dX11_beside_57 : decode cX11_beside 57 = .ok (.invokevirtual 321, 3) := by decide +kernel
theorem dX11_beside_60 : decode cX11_beside 60 = .ok (.aload_n 0, 1) := by decide +kernel
theorem dX11_beside_61 : decode cX11_beside 61 = .ok (.getfield 48, 3) := by decide +kernel
theorem dX11_beside_64 : decode cX11_beside 64 = .ok (.bipush 16, 2) := by decide +kernel
theorem dX11_beside_66 : decode cX11_beside 66 = .ok (.iload_n 3, 1) := by decide +kernel
theorem dX11_beside_67 : decode cX11_beside 67 = .ok (.iadd, 1) := by decide +kernel
theorem dX11_beside_68 : decode cX11_beside 68 = .ok (.iload 4, 2) := by decide +kernel
theorem dX11_beside_70 : decode cX11_beside 70 = .ok (.ishr, 1) := by decide +kernel
theorem dX11_beside_71 : decode cX11_beside 71 = .ok (.iconst 1, 1) := by decide +kernel
theorem dX11_beside_72 : decode cX11_beside 72 = .ok (.ixor, 1) := by decide +kernel
theorem dX11_beside_73 : decode cX11_beside 73 = .ok (.iaload, 1) := by decide +kernel
theorem dX11_beside_74 : decode cX11_beside 74 = .ok (.ireturn, 1) := by decide +kernel
theorem dX11_both_0 : decode cX11_both 0 = .ok (.aload_n 0, 1) := by decide +kernel
theorem dX11_both_1 : decode cX11_both 1 = .ok (.iconst 0, 1) := by decide +kernel
theorem dX11_both_2 : decode cX11_both 2 = .ok (.putfield 151, 3) := by decide +kernel
theorem dX11_both_5 : decode cX11_both 5 = .ok (.iload_n 1, 1) := by decide +kernel
theorem dX11_both_6 : decode cX11_both 6 = .ok (.iload_n 2, 1) := by decide +kernel
theorem dX11_both_7 : decode cX11_both 7 = .ok (.invokestatic 318, 3) := by decide +kernel
theorem dX11_both_10 : decode cX11_both 10 = .ok (.ireturn, 1) := by decide +kernel
theorem dX11_shown_0 : decode cX11_shown 0 = .ok (.aload_n 0, 1) := by decide +kernel
theorem dX11_shown_1 : decode cX11_shown 1 = .ok (.iload_n 1, 1) := by decide +kernel
theorem dX11_shown_2 : decode cX11_shown 2 = .ok (.invokevirtual 284, 3) := by decide +kernel
theorem dX11_shown_5 : decode cX11_shown 5 = .ok (.ifCond .eq 37, 3) := by decide +kernel
theorem dX11_shown_8 : decode cX11_shown 8 = .ok (.aload_n 0, 1) := by decide +kernel
theorem dX11_shown_9 : decode cX11_shown 9 = .ok (.iload_n 2, 1) := by decide +kernel
theorem dX11_shown_10 : decode cX11_shown 10 = .ok (.iconst 0, 1) := by decide +kernel
theorem dX11_shown_11 : decode cX11_shown 11 = .ok (.sipush 20000, 3) := by decide +kernel
theorem dX11_shown_14 : decode cX11_shown 14 = .ok (.invokestatic 276, 3) := by decide +kernel
theorem dX11_shown_17 : decode cX11_shown 17 = .ok (.ifCond .eq 13, 3) := by decide +kernel
theorem dX11_shown_20 : decode cX11_shown 20 = .ok (.iload_n 3, 1) := by decide +kernel
theorem dX11_shown_21 : decode cX11_shown 21 = .ok (.iconst 0, 1) := by decide +kernel
theorem dX11_shown_22 : decode cX11_shown 22 = .ok (.bipush 15, 2) := by decide +kernel
theorem dX11_shown_24 : decode cX11_shown 24 = .ok (.invokestatic 276, 3) := by decide +kernel
theorem dX11_shown_27 : decode cX11_shown 27 = .ok (.ifCond .ne 7, 3) := by decide +kernel
theorem dX11_shown_30 : decode cX11_shown 30 = .ok (.iconst 1, 1) := by decide +kernel
theorem dX11_shown_31 : decode cX11_shown 31 = .ok (.goto 4, 3) := by decide +kernel
theorem dX11_shown_34 : decode cX11_shown 34 = .ok (.iconst 0, 1) := by decide +kernel
theorem dX11_shown_35 : decode cX11_shown 35 = .ok (.iconst 2, 1) := by decide +kernel
theorem dX11_shown_36 : decode cX11_shown 36 = .ok (.invokevirtual 280, 3) := by decide +kernel
theorem dX11_shown_39 : decode cX11_shown 39 = .ok (.ifCond .eq 5, 3) := by decide +kernel
theorem dX11_shown_42 : decode cX11_shown 42 = .ok (.iconst 0, 1) := by decide +kernel
theorem dX11_shown_43 : decode cX11_shown 43 = .ok (.ireturn, 1) := by decide +kernel
theorem dX11_shown_44 : decode cX11_shown 44 = .ok (.aload_n 0, 1) := by decide +kernel
theorem dX11_shown_45 : decode cX11_shown 45 = .ok (.iload_n 1, 1) := by decide +kernel
theorem dX11_shown_46 : decode cX11_shown 46 = .ok (.iload_n 2, 1) := by decide +kernel
theorem dX11_shown_47 : decode cX11_shown 47 = .ok (.invokevirtual 321, 3) := by decide +kernel
theorem dX11_shown_50 : decode cX11_shown 50 = .ok (.iload 4, 2) := by decide +kernel
theorem dX11_shown_52 : decode cX11_shown 52 = .ok (.istore 5, 2) := by decide +kernel
theorem dX11_shown_54 : decode cX11_shown 54 = .ok (.bipush 16, 2) := by decide +kernel
theorem dX11_shown_56 : decode cX11_shown 56 = .ok (.iload_n 3, 1) := by decide +kernel
theorem dX11_shown_57 : decode cX11_shown 57 = .ok (.iadd, 1) := by decide +kernel
theorem dX11_shown_58 : decode cX11_shown 58 = .ok (.istore 6, 2) := by decide +kernel
theorem dX11_shown_60 : decode cX11_shown 60 = .ok (.iload 6, 2) := by decide +kernel
theorem dX11_shown_62 : decode cX11_shown 62 = .ok (.iconst 1, 1) := by decide +kernel
theorem dX11_shown_63 : decode cX11_shown 63 = .ok (.if_icmp .le 52, 3) := by decide +kernel
theorem dX11_shown_66 : decode cX11_shown 66 = .ok (.iload 6, 2) := by decide +kernel
theorem dX11_shown_68 : decode cX11_shown 68 = .ok (.iconst 2, 1) := by decide +kernel
theorem dX11_shown_69 : decode cX11_shown 69 = .ok (.irem, 1) := by decide +kernel
theorem dX11_shown_70 : decode cX11_shown 70 = .ok (.ifCond .ne 20, 3) := by decide +kernel
theorem dX11_shown_73 : decode cX11_shown 73 = .ok (.iload 5, 2) := by decide +kernel
theorem dX11_shown_75 : decode cX11_shown 75 = .ok (.aload_n 0, 1) := by decide +kernel
theorem dX11_shown_76 : decode cX11_shown 76 = .ok (.getfield 48, 3) := by decide +kernel
theorem dX11_shown_79 : decode cX11_shown 79 = .ok (.iload 6, 2) := by decide +kernel
theorem dX11_shown_81 : decode cX11_shown 81 = .ok (.iconst 1, 1) := by decide +kernel
theorem dX11_shown_82 : decode cX11_shown 82 = .ok (.iadd, 1) := by decide +kernel
theorem dX11_shown_83 : decode cX11_shown 83 = .ok (.iaload, 1) := by decide +kernel
theorem dX11_shown_84 : decode cX11_shown 84 = .ok (.invokestatic 318, 3) := by decide +kernel
theorem dX11_shown_87 : decode cX11_shown 87 = .ok (.goto 17, 3) := by decide +kernel
theorem dX11_shown_90 : decode cX11_shown 90 = .ok (.aload_n 0, 1) := by decide +kernel
theorem dX11_shown_91 : decode cX11_shown 91 = .ok (.getfield 48, 3) := by decide +kernel
theorem dX11_shown_94 : decode cX11_shown 94 = .ok (.iload 6, 2) := by decide +kernel
theorem dX11_shown_96 : decode cX11_shown 96 = .ok (.iconst 1, 1) := by decide +kernel
theorem dX11_shown_97 : decode cX11_shown 97 = .ok (.isub, 1) := by decide +kernel
theorem dX11_shown_98 : decode cX11_shown 98 = .ok (.iaload, 1) := by decide +kernel
theorem dX11_shown_99 : decode cX11_shown 99 = .ok (.iload 5, 2) := by decide +kernel
theorem dX11_shown_101 : decode cX11_shown 101 = .ok (.invokestatic 318, 3) := by decide +kernel
theorem dX11_shown_104 : decode cX11_shown 104 = .ok (.istore 5, 2) := by decide +kernel
theorem dX11_shown_106 : decode cX11_shown 106 = .ok (.iload 6, 2) := by decide +kernel
theorem dX11_shown_108 : decode cX11_shown 108 = .ok (.iconst 2, 1) := by decide +kernel
theorem dX11_shown_109 : decode cX11_shown 109 = .ok (.idiv, 1) := by decide +kernel
theorem dX11_shown_110 : decode cX11_shown 110 = .ok (.istore 6, 2) := by decide +kernel
theorem dX11_shown_112 : decode cX11_shown 112 = .ok (.goto (-52), 3) := by decide +kernel
theorem dX11_shown_115 : decode cX11_shown 115 = .ok (.iload 5, 2) := by decide +kernel
theorem dX11_shown_117 : decode cX11_shown 117 = .ok (.aload_n 0, 1) := by decide +kernel
theorem dX11_shown_118 : decode cX11_shown 118 = .ok (.getfield 48, 3) := by decide +kernel
theorem dX11_shown_121 : decode cX11_shown 121 = .ok (.iconst 1, 1) := by decide +kernel
theorem dX11_shown_122 : decode cX11_shown 122 = .ok (.iaload, 1) := by decide +kernel
theorem dX11_shown_123 : decode cX11_shown 123 = .ok (.if_icmp .ne 7, 3) := by decide +kernel
theorem dX11_shown_126 : decode cX11_shown 126 = .ok (.iconst 1, 1) := by decide +kernel
theorem dX11_shown_127 : decode cX11_shown 127 = .ok (.goto 4, 3) := by decide +kernel
theorem dX11_shown_130 : decode cX11_shown 130 = .ok (.iconst 0, 1) := by decide +kernel
theorem dX11_shown_131 : decode cX11_shown 131 = .ok (.ireturn, 1) := by decide +kernel
theorem dX11_cut_0 : decode cX11_cut 0 = .ok (.aload_n 0, 1) := by decide +kernel
theorem dX11_cut_1 : decode cX11_cut 1 = .ok (.iload_n 1, 1) := by decide +kernel
theorem dX11_cut_2 : decode cX11_cut 2 = .ok (.invokevirtual 284, 3) := by decide +kernel
theorem dX11_cut_5 : decode cX11_cut 5 = .ok (.ifCond .eq 28, 3) := by decide +kernel
theorem dX11_cut_8 : decode cX11_cut 8 = .ok (.aload_n 0, 1) := by decide +kernel
theorem dX11_cut_9 : decode cX11_cut 9 = .ok (.iload_n 2, 1) := by decide +kernel
theorem dX11_cut_10 : decode cX11_cut 10 = .ok (.bipush 10, 2) := by decide +kernel
theorem dX11_cut_12 : decode cX11_cut 12 = .ok (.sipush 20000, 3) := by decide +kernel
theorem dX11_cut_15 : decode cX11_cut 15 = .ok (.invokestatic 276, 3) := by decide +kernel
theorem dX11_cut_18 : decode cX11_cut 18 = .ok (.ifCond .ne 7, 3) := by decide +kernel
theorem dX11_cut_21 : decode cX11_cut 21 = .ok (.iconst 1, 1) := by decide +kernel
theorem dX11_cut_22 : decode cX11_cut 22 = .ok (.goto 4, 3) := by decide +kernel
theorem dX11_cut_25 : decode cX11_cut 25 = .ok (.iconst 0, 1) := by decide +kernel
theorem dX11_cut_26 : decode cX11_cut 26 = .ok (.iconst 2, 1) := by decide +kernel
theorem dX11_cut_27 : decode cX11_cut 27 = .ok (.invokevirtual 280, 3) := by decide +kernel
theorem dX11_cut_30 : decode cX11_cut 30 = .ok (.ifCond .eq 5, 3) := by decide +kernel
theorem dX11_cut_33 : decode cX11_cut 33 = .ok (.iconst 0, 1) := by decide +kernel
theorem dX11_cut_34 : decode cX11_cut 34 = .ok (.ireturn, 1) := by decide +kernel
theorem dX11_cut_35 : decode cX11_cut 35 = .ok (.aload_n 0, 1) := by decide +kernel
theorem dX11_cut_36 : decode cX11_cut 36 = .ok (.getfield 51, 3) := by decide +kernel
theorem dX11_cut_39 : decode cX11_cut 39 = .ok (.iload_n 1, 1) := by decide +kernel
theorem dX11_cut_40 : decode cX11_cut 40 = .ok (.baload, 1) := by decide +kernel
theorem dX11_cut_41 : decode cX11_cut 41 = .ok (.ifCond .eq 5, 3) := by decide +kernel
theorem dX11_cut_44 : decode cX11_cut 44 = .ok (.iconst (-1), 1) := by decide +kernel
theorem dX11_cut_45 : decode cX11_cut 45 = .ok (.ireturn, 1) := by decide +kernel
theorem dX11_cut_46 : decode cX11_cut 46 = .ok (.aload_n 0, 1) := by decide +kernel
theorem dX11_cut_47 : decode cX11_cut 47 = .ok (.iload_n 1, 1) := by decide +kernel
theorem dX11_cut_48 : decode cX11_cut 48 = .ok (.invokevirtual 311, 3) := by decide +kernel
theorem dX11_cut_51 : decode cX11_cut 51 = .ok (.istore_n 3, 1) := by decide +kernel
theorem dX11_cut_52 : decode cX11_cut 52 = .ok (.iload_n 3, 1) := by decide +kernel
theorem dX11_cut_53 : decode cX11_cut 53 = .ok (.ifCond .ge 6, 3) := by decide +kernel
theorem dX11_cut_56 : decode cX11_cut 56 = .ok (.bipush (-2), 2) := by decide +kernel
theorem dX11_cut_58 : decode cX11_cut 58 = .ok (.ireturn, 1) := by decide +kernel
theorem dX11_cut_59 : decode cX11_cut 59 = .ok (.iload_n 3, 1) := by decide +kernel
theorem dX11_cut_60 : decode cX11_cut 60 = .ok (.ifCond .eq 15, 3) := by decide +kernel
theorem dX11_cut_63 : decode cX11_cut 63 = .ok (.iload_n 3, 1) := by decide +kernel
theorem dX11_cut_64 : decode cX11_cut 64 = .ok (.iload_n 2, 1) := by decide +kernel
theorem dX11_cut_65 : decode cX11_cut 65 = .ok (.iadd, 1) := by decide +kernel
theorem dX11_cut_66 : decode cX11_cut 66 = .ok (.iconst 1, 1) := by decide +kernel
theorem dX11_cut_67 : decode cX11_cut 67 = .ok (.isub, 1) := by decide +kernel
theorem dX11_cut_68 : decode cX11_cut 68 = .ok (.iload_n 2, 1) := by decide +kernel
theorem dX11_cut_69 : decode cX11_cut 69 = .ok (.idiv, 1) := by decide +kernel
theorem dX11_cut_70 : decode cX11_cut 70 = .ok (.bipush 20, 2) := by decide +kernel
theorem dX11_cut_72 : decode cX11_cut 72 = .ok (.if_icmp .le 6, 3) := by decide +kernel
theorem dX11_cut_75 : decode cX11_cut 75 = .ok (.bipush (-3), 2) := by decide +kernel
theorem dX11_cut_77 : decode cX11_cut 77 = .ok (.ireturn, 1) := by decide +kernel
theorem dX11_cut_78 : decode cX11_cut 78 = .ok (.aload_n 0, 1) := by decide +kernel
theorem dX11_cut_79 : decode cX11_cut 79 = .ok (.getfield 51, 3) := by decide +kernel
theorem dX11_cut_82 : decode cX11_cut 82 = .ok (.iload_n 1, 1) := by decide +kernel
theorem dX11_cut_83 : decode cX11_cut 83 = .ok (.iconst 1, 1) := by decide +kernel
theorem dX11_cut_84 : decode cX11_cut 84 = .ok (.bastore, 1) := by decide +kernel
theorem dX11_cut_85 : decode cX11_cut 85 = .ok (.aload_n 0, 1) := by decide +kernel
theorem dX11_cut_86 : decode cX11_cut 86 = .ok (.getfield 55, 3) := by decide +kernel
theorem dX11_cut_89 : decode cX11_cut 89 = .ok (.iload_n 1, 1) := by decide +kernel
theorem dX11_cut_90 : decode cX11_cut 90 = .ok (.iload_n 3, 1) := by decide +kernel
theorem dX11_cut_91 : decode cX11_cut 91 = .ok (.iload_n 2, 1) := by decide +kernel
theorem dX11_cut_92 : decode cX11_cut 92 = .ok (.iadd, 1) := by decide +kernel
theorem dX11_cut_93 : decode cX11_cut 93 = .ok (.iconst 1, 1) := by decide +kernel
theorem dX11_cut_94 : decode cX11_cut 94 = .ok (.isub, 1) := by decide +kernel
theorem dX11_cut_95 : decode cX11_cut 95 = .ok (.iload_n 2, 1) := by decide +kernel
theorem dX11_cut_96 : decode cX11_cut 96 = .ok (.idiv, 1) := by decide +kernel
theorem dX11_cut_97 : decode cX11_cut 97 = .ok (.iastore, 1) := by decide +kernel
theorem dX11_cut_98 : decode cX11_cut 98 = .ok (.aload_n 0, 1) := by decide +kernel
theorem dX11_cut_99 : decode cX11_cut 99 = .ok (.getfield 58, 3) := by decide +kernel
theorem dX11_cut_102 : decode cX11_cut 102 = .ok (.iload_n 1, 1) := by decide +kernel
theorem dX11_cut_103 : decode cX11_cut 103 = .ok (.iload_n 2, 1) := by decide +kernel
theorem dX11_cut_104 : decode cX11_cut 104 = .ok (.iastore, 1) := by decide +kernel
theorem dX11_cut_105 : decode cX11_cut 105 = .ok (.aload_n 0, 1) := by decide +kernel
theorem dX11_cut_106 : decode cX11_cut 106 = .ok (.getfield 61, 3) := by decide +kernel
theorem dX11_cut_109 : decode cX11_cut 109 = .ok (.iload_n 1, 1) := by decide +kernel
theorem dX11_cut_110 : decode cX11_cut 110 = .ok (.iload_n 3, 1) := by decide +kernel
theorem dX11_cut_111 : decode cX11_cut 111 = .ok (.iastore, 1) := by decide +kernel
theorem dX11_cut_112 : decode cX11_cut 112 = .ok (.aload_n 0, 1) := by decide +kernel
theorem dX11_cut_113 : decode cX11_cut 113 = .ok (.getfield 55, 3) := by decide +kernel
theorem dX11_cut_116 : decode cX11_cut 116 = .ok (.iload_n 1, 1) := by decide +kernel
theorem dX11_cut_117 : decode cX11_cut 117 = .ok (.iaload, 1) := by decide +kernel
theorem dX11_cut_118 : decode cX11_cut 118 = .ok (.ireturn, 1) := by decide +kernel
theorem dX11_firstOf_0 : decode cX11_firstOf 0 = .ok (.iload_n 1, 1) := by decide +kernel
theorem dX11_firstOf_1 : decode cX11_firstOf 1 = .ok (.bipush 20, 2) := by decide +kernel
theorem dX11_firstOf_3 : decode cX11_firstOf 3 = .ok (.irem, 1) := by decide +kernel
theorem dX11_firstOf_4 : decode cX11_firstOf 4 = .ok (.aload_n 0, 1) := by decide +kernel
theorem dX11_firstOf_5 : decode cX11_firstOf 5 = .ok (.getfield 58, 3) := by decide +kernel
theorem dX11_firstOf_8 : decode cX11_firstOf 8 = .ok (.iload_n 1, 1) := by decide +kernel
theorem dX11_firstOf_9 : decode cX11_firstOf 9 = .ok (.bipush 20, 2) := by decide +kernel
theorem dX11_firstOf_11 : decode cX11_firstOf 11 = .ok (.idiv, 1) := by decide +kernel
theorem dX11_firstOf_12 : decode cX11_firstOf 12 = .ok (.iaload, 1) := by decide +kernel
theorem dX11_firstOf_13 : decode cX11_firstOf 13 = .ok (.imul, 1) := by decide +kernel
theorem dX11_firstOf_14 : decode cX11_firstOf 14 = .ok (.ireturn, 1) := by decide +kernel
theorem dX11_lastOf_0 : decode cX11_lastOf 0 = .ok (.aload_n 0, 1) := by decide +kernel
theorem dX11_lastOf_1 : decode cX11_lastOf 1 = .ok (.iload_n 1, 1) := by decide +kernel
theorem dX11_lastOf_2 : decode cX11_lastOf 2 = .ok (.invokevirtual 327, 3) := by decide +kernel
theorem dX11_lastOf_5 : decode cX11_lastOf 5 = .ok (.aload_n 0, 1) := by decide +kernel
theorem dX11_lastOf_6 : decode cX11_lastOf 6 = .ok (.getfield 58, 3) := by decide +kernel
theorem dX11_lastOf_9 : decode cX11_lastOf 9 = .ok (.iload_n 1, 1) := by decide +kernel
theorem dX11_lastOf_10 : decode cX11_lastOf 10 = .ok (.bipush 20, 2) := by decide +kernel
theorem dX11_lastOf_12 : decode cX11_lastOf 12 = .ok (.idiv, 1) := by decide +kernel
theorem dX11_lastOf_13 : decode cX11_lastOf 13 = .ok (.iaload, 1) := by decide +kernel
theorem dX11_lastOf_14 : decode cX11_lastOf 14 = .ok (.iadd, 1) := by decide +kernel
theorem dX11_lastOf_15 : decode cX11_lastOf 15 = .ok (.istore_n 2, 1) := by decide +kernel
theorem dX11_lastOf_16 : decode cX11_lastOf 16 = .ok (.iload_n 2, 1) := by decide +kernel
theorem dX11_lastOf_17 : decode cX11_lastOf 17 = .ok (.aload_n 0, 1) := by decide +kernel
theorem dX11_lastOf_18 : decode cX11_lastOf 18 = .ok (.getfield 61, 3) := by decide +kernel
theorem dX11_lastOf_21 : decode cX11_lastOf 21 = .ok (.iload_n 1, 1) := by decide +kernel
theorem dX11_lastOf_22 : decode cX11_lastOf 22 = .ok (.bipush 20, 2) := by decide +kernel
theorem dX11_lastOf_24 : decode cX11_lastOf 24 = .ok (.idiv, 1) := by decide +kernel
theorem dX11_lastOf_25 : decode cX11_lastOf 25 = .ok (.iaload, 1) := by decide +kernel
theorem dX11_lastOf_26 : decode cX11_lastOf 26 = .ok (.if_icmp .ge 7, 3) := by decide +kernel
theorem dX11_lastOf_29 : decode cX11_lastOf 29 = .ok (.iload_n 2, 1) := by decide +kernel
theorem dX11_lastOf_30 : decode cX11_lastOf 30 = .ok (.goto 12, 3) := by decide +kernel
theorem dX11_lastOf_33 : decode cX11_lastOf 33 = .ok (.aload_n 0, 1) := by decide +kernel
theorem dX11_lastOf_34 : decode cX11_lastOf 34 = .ok (.getfield 61, 3) := by decide +kernel
theorem dX11_lastOf_37 : decode cX11_lastOf 37 = .ok (.iload_n 1, 1) := by decide +kernel
theorem dX11_lastOf_38 : decode cX11_lastOf 38 = .ok (.bipush 20, 2) := by decide +kernel
theorem dX11_lastOf_40 : decode cX11_lastOf 40 = .ok (.idiv, 1) := by decide +kernel
theorem dX11_lastOf_41 : decode cX11_lastOf 41 = .ok (.iaload, 1) := by decide +kernel
theorem dX11_lastOf_42 : decode cX11_lastOf 42 = .ok (.ireturn, 1) := by decide +kernel
theorem dX11_house_0 : decode cX11_house 0 = .ok (.aload_n 0, 1) := by decide +kernel
theorem dX11_house_1 : decode cX11_house 1 = .ok (.iconst 0, 1) := by decide +kernel
theorem dX11_house_2 : decode cX11_house 2 = .ok (.putfield 151, 3) := by decide +kernel
theorem dX11_house_5 : decode cX11_house 5 = .ok (.aload_n 0, 1) := by decide +kernel
theorem dX11_house_6 : decode cX11_house 6 = .ok (.iload_n 1, 1) := by decide +kernel
theorem dX11_house_7 : decode cX11_house 7 = .ok (.iconst 0, 1) := by decide +kernel
theorem dX11_house_8 : decode cX11_house 8 = .ok (.ldc 224, 2) := by decide +kernel
theorem dX11_house_10 : decode cX11_house 10 = .ok (.invokestatic 276, 3) := by decide +kernel
theorem dX11_house_13 : decode cX11_house 13 = .ok (.ifCond .ne 7, 3) := by decide +kernel
theorem dX11_house_16 : decode cX11_house 16 = .ok (.iconst 1, 1) := by decide +kernel
theorem dX11_house_17 : decode cX11_house 17 = .ok (.goto 4, 3) := by decide +kernel
theorem dX11_house_20 : decode cX11_house 20 = .ok (.iconst 0, 1) := by decide +kernel
theorem dX11_house_21 : decode cX11_house 21 = .ok (.iconst 1, 1) := by decide +kernel
theorem dX11_house_22 : decode cX11_house 22 = .ok (.invokevirtual 280, 3) := by decide +kernel
theorem dX11_house_25 : decode cX11_house 25 = .ok (.ifCond .eq 5, 3) := by decide +kernel
theorem dX11_house_28 : decode cX11_house 28 = .ok (.iconst 0, 1) := by decide +kernel
theorem dX11_house_29 : decode cX11_house 29 = .ok (.ireturn, 1) := by decide +kernel
theorem dX11_house_30 : decode cX11_house 30 = .ok (.aload_n 0, 1) := by decide +kernel
theorem dX11_house_31 : decode cX11_house 31 = .ok (.getfield 330, 3) := by decide +kernel
theorem dX11_house_34 : decode cX11_house 34 = .ok (.bipush 8, 2) := by decide +kernel
theorem dX11_house_36 : decode cX11_house 36 = .ok (.if_icmp .ne 5, 3) := by decide +kernel
theorem dX11_house_39 : decode cX11_house 39 = .ok (.iconst (-1), 1) := by decide +kernel
theorem dX11_house_40 : decode cX11_house 40 = .ok (.ireturn, 1) := by decide +kernel
theorem dX11_house_41 : decode cX11_house 41 = .ok (.aload_n 0, 1) := by decide +kernel
theorem dX11_house_42 : decode cX11_house 42 = .ok (.getfield 115, 3) := by decide +kernel
theorem dX11_house_45 : decode cX11_house 45 = .ok (.aload_n 0, 1) := by decide +kernel
theorem dX11_house_46 : decode cX11_house 46 = .ok (.getfield 330, 3) := by decide +kernel
theorem dX11_house_49 : decode cX11_house 49 = .ok (.iload_n 1, 1) := by decide +kernel
theorem dX11_house_50 : decode cX11_house 50 = .ok (.iastore, 1) := by decide +kernel
theorem dX11_house_51 : decode cX11_house 51 = .ok (.aload_n 0, 1) := by decide +kernel
theorem dX11_house_52 : decode cX11_house 52 = .ok (.dup, 1) := by decide +kernel
theorem dX11_house_53 : decode cX11_house 53 = .ok (.getfield 330, 3) := by decide +kernel
theorem dX11_house_56 : decode cX11_house 56 = .ok (.iconst 1, 1) := by decide +kernel
theorem dX11_house_57 : decode cX11_house 57 = .ok (.iadd, 1) := by decide +kernel
theorem dX11_house_58 : decode cX11_house 58 = .ok (.putfield 330, 3) := by decide +kernel
theorem dX11_house_61 : decode cX11_house 61 = .ok (.aload_n 0, 1) := by decide +kernel
theorem dX11_house_62 : decode cX11_house 62 = .ok (.getfield 330, 3) := by decide +kernel
theorem dX11_house_65 : decode cX11_house 65 = .ok (.iconst 1, 1) := by decide +kernel
theorem dX11_house_66 : decode cX11_house 66 = .ok (.isub, 1) := by decide +kernel
theorem dX11_house_67 : decode cX11_house 67 = .ok (.ireturn, 1) := by decide +kernel
theorem dX11_isHouse_0 : decode cX11_isHouse 0 = .ok (.iload_n 1, 1) := by decide +kernel
theorem dX11_isHouse_1 : decode cX11_isHouse 1 = .ok (.iconst 0, 1) := by decide +kernel
theorem dX11_isHouse_2 : decode cX11_isHouse 2 = .ok (.aload_n 0, 1) := by decide +kernel
theorem dX11_isHouse_3 : decode cX11_isHouse 3 = .ok (.getfield 330, 3) := by decide +kernel
theorem dX11_isHouse_6 : decode cX11_isHouse 6 = .ok (.iconst 1, 1) := by decide +kernel
theorem dX11_isHouse_7 : decode cX11_isHouse 7 = .ok (.isub, 1) := by decide +kernel
theorem dX11_isHouse_8 : decode cX11_isHouse 8 = .ok (.invokestatic 276, 3) := by decide +kernel
theorem dX11_isHouse_11 : decode cX11_isHouse 11 = .ok (.ireturn, 1) := by decide +kernel
theorem dX11_told_0 : decode cX11_told 0 = .ok (.aload_n 0, 1) := by decide +kernel
theorem dX11_told_1 : decode cX11_told 1 = .ok (.iconst 0, 1) := by decide +kernel
theorem dX11_told_2 : decode cX11_told 2 = .ok (.putfield 151, 3) := by decide +kernel
theorem dX11_told_5 : decode cX11_told 5 = .ok (.aload_n 0, 1) := by decide +kernel
theorem dX11_told_6 : decode cX11_told 6 = .ok (.aload_n 0, 1) := by decide +kernel
theorem dX11_told_7 : decode cX11_told 7 = .ok (.iload_n 1, 1) := by decide +kernel
theorem dX11_told_8 : decode cX11_told 8 = .ok (.invokevirtual 333, 3) := by decide +kernel
theorem dX11_told_11 : decode cX11_told 11 = .ok (.ifCond .ne 7, 3) := by decide +kernel
theorem dX11_told_14 : decode cX11_told 14 = .ok (.iconst 1, 1) := by decide +kernel
theorem dX11_told_15 : decode cX11_told 15 = .ok (.goto 4, 3) := by decide +kernel
theorem dX11_told_18 : decode cX11_told 18 = .ok (.iconst 0, 1) := by decide +kernel
theorem dX11_told_19 : decode cX11_told 19 = .ok (.iconst 1, 1) := by decide +kernel
theorem dX11_told_20 : decode cX11_told 20 = .ok (.invokevirtual 280, 3) := by decide +kernel
theorem dX11_told_23 : decode cX11_told 23 = .ok (.ifCond .ne 25, 3) := by decide +kernel
theorem dX11_told_26 : decode cX11_told 26 = .ok (.aload_n 0, 1) := by decide +kernel
theorem dX11_told_27 : decode cX11_told 27 = .ok (.iload_n 2, 1) := by decide +kernel
theorem dX11_told_28 : decode cX11_told 28 = .ok (.iconst 0, 1) := by decide +kernel
theorem dX11_told_29 : decode cX11_told 29 = .ok (.iconst 2, 1) := by decide +kernel
theorem dX11_told_30 : decode cX11_told 30 = .ok (.invokestatic 276, 3) := by decide +kernel
theorem dX11_told_33 : decode cX11_told 33 = .ok (.ifCond .ne 7, 3) := by decide +kernel
theorem dX11_told_36 : decode cX11_told 36 = .ok (.iconst 1, 1) := by decide +kernel
theorem dX11_told_37 : decode cX11_told 37 = .ok (.goto 4, 3) := by decide +kernel
theorem dX11_told_40 : decode cX11_told 40 = .ok (.iconst 0, 1) := by decide +kernel
theorem dX11_told_41 : decode cX11_told 41 = .ok (.iconst 2, 1) := by decide +kernel
theorem dX11_told_42 : decode cX11_told 42 = .ok (.invokevirtual 280, 3) := by decide +kernel
theorem dX11_told_45 : decode cX11_told 45 = .ok (.ifCond .eq 5, 3) := by decide +kernel
theorem dX11_told_48 : decode cX11_told 48 = .ok (.iconst 0, 1) := by decide +kernel
theorem dX11_told_49 : decode cX11_told 49 = .ok (.ireturn, 1) := by decide +kernel
theorem dX11_told_50 : decode cX11_told 50 = .ok (.iload_n 2, 1) := by decide +kernel
theorem dX11_told_51 : decode cX11_told 51 = .ok (.ifCond .ne 12, 3) := by decide +kernel
theorem dX11_told_54 : decode cX11_told 54 = .ok (.aload_n 0, 1) := by decide +kernel
theorem dX11_told_55 : decode cX11_told 55 = .ok (.getfield 115, 3) := by decide +kernel
theorem dX11_told_58 : decode cX11_told 58 = .ok (.iload_n 1, 1) := by decide +kernel
theorem dX11_told_59 : decode cX11_told 59 = .ok (.iaload, 1) := by decide +kernel
theorem dX11_told_60 : decode cX11_told 60 = .ok (.goto 23, 3) := by decide +kernel
theorem dX11_told_63 : decode cX11_told 63 = .ok (.iload_n 2, 1) := by decide +kernel
theorem dX11_told_64 : decode cX11_told 64 = .ok (.iconst 1, 1) := by decide +kernel
theorem dX11_told_65 : decode cX11_told 65 = .ok (.if_icmp .ne 12, 3) := by decide +kernel
theorem dX11_told_68 : decode cX11_told 68 = .ok (.aload_n 0, 1) := by decide +kernel
theorem dX11_told_69 : decode cX11_told 69 = .ok (.getfield 118, 3) := by decide +kernel
theorem dX11_told_72 : decode cX11_told 72 = .ok (.iload_n 1, 1) := by decide +kernel
theorem dX11_told_73 : decode cX11_told 73 = .ok (.iaload, 1) := by decide +kernel
theorem dX11_told_74 : decode cX11_told 74 = .ok (.goto 9, 3) := by decide +kernel
theorem dX11_told_77 : decode cX11_told 77 = .ok (.aload_n 0, 1) := by decide +kernel
theorem dX11_told_78 : decode cX11_told 78 = .ok (.getfield 121, 3) := by decide +kernel
theorem dX11_told_81 : decode cX11_told 81 = .ok (.iload_n 1, 1) := by decide +kernel
theorem dX11_told_82 : decode cX11_told 82 = .ok (.iaload, 1) := by decide +kernel
theorem dX11_told_83 : decode cX11_told 83 = .ok (.ireturn, 1) := by decide +kernel
theorem dX11_rule_0 : decode cX11_rule 0 = .ok (.aload_n 0, 1) := by decide +kernel
theorem dX11_rule_1 : decode cX11_rule 1 = .ok (.iconst 0, 1) := by decide +kernel
theorem dX11_rule_2 : decode cX11_rule 2 = .ok (.putfield 151, 3) := by decide +kernel
theorem dX11_rule_5 : decode cX11_rule 5 = .ok (.aload_n 0, 1) := by decide +kernel
theorem dX11_rule_6 : decode cX11_rule 6 = .ok (.iload_n 1, 1) := by decide +kernel
theorem dX11_rule_7 : decode cX11_rule 7 = .ok (.iconst 0, 1) := by decide +kernel
theorem dX11_rule_8 : decode cX11_rule 8 = .ok (.iconst 2, 1) := by decide +kernel
theorem dX11_rule_9 : decode cX11_rule 9 = .ok (.invokestatic 276, 3) := by decide +kernel
theorem dX11_rule_12 : decode cX11_rule 12 = .ok (.ifCond .eq 31, 3) := by decide +kernel
theorem dX11_rule_15 : decode cX11_rule 15 = .ok (.iload_n 1, 1) := by decide +kernel
theorem dX11_rule_16 : decode cX11_rule 16 = .ok (.iconst 2, 1) := by decide +kernel
theorem dX11_rule_17 : decode cX11_rule 17 = .ok (.if_icmp .ge 16, 3) := by decide +kernel
theorem dX11_rule_20 : decode cX11_rule 20 = .ok (.iload_n 2, 1) := by decide +kernel
theorem dX11_rule_21 : decode cX11_rule 21 = .ok (.iconst 1, 1) := by decide +kernel
theorem dX11_rule_22 : decode cX11_rule 22 = .ok (.bipush 100, 2) := by decide +kernel
theorem dX11_rule_24 : decode cX11_rule 24 = .ok (.invokestatic 276, 3) := by decide +kernel
theorem dX11_rule_27 : decode cX11_rule 27 = .ok (.ifCond .ne 20, 3) := by decide +kernel
theorem dX11_rule_30 : decode cX11_rule 30 = .ok (.goto 13, 3) := by decide +kernel
theorem dX11_rule_33 : decode cX11_rule 33 = .ok (.iload_n 2, 1) := by decide +kernel
theorem dX11_rule_34 : decode cX11_rule 34 = .ok (.iconst 0, 1) := by decide +kernel
theorem dX11_rule_35 : decode cX11_rule 35 = .ok (.bipush 100, 2) := by decide +kernel
theorem dX11_rule_37 : decode cX11_rule 37 = .ok (.invokestatic 276, 3) := by decide +kernel
theorem dX11_rule_40 : decode cX11_rule 40 = .ok (.ifCond .ne 7, 3) := by decide +kernel
theorem dX11_rule_43 : decode cX11_rule 43 = .ok (.iconst 1, 1) := by decide +kernel
theorem dX11_rule_44 : decode cX11_rule 44 = .ok (.goto 4, 3) := by decide +kernel
theorem dX11_rule_47 : decode cX11_rule 47 = .ok (.iconst 0, 1) := by decide +kernel
theorem dX11_rule_48 : decode cX11_rule 48 = .ok (.iconst 1, 1) := by decide +kernel
theorem dX11_rule_49 : decode cX11_rule 49 = .ok (.invokevirtual 280, 3) := by decide +kernel
theorem dX11_rule_52 : decode cX11_rule 52 = .ok (.ifCond .eq 5, 3) := by decide +kernel
theorem dX11_rule_55 : decode cX11_rule 55 = .ok (.iconst 0, 1) := by decide +kernel
theorem dX11_rule_56 : decode cX11_rule 56 = .ok (.ireturn, 1) := by decide +kernel
theorem dX11_rule_57 : decode cX11_rule 57 = .ok (.iload_n 1, 1) := by decide +kernel
theorem dX11_rule_58 : decode cX11_rule 58 = .ok (.ifCond .ne 10, 3) := by decide +kernel
theorem dX11_rule_61 : decode cX11_rule 61 = .ok (.aload_n 0, 1) := by decide +kernel
theorem dX11_rule_62 : decode cX11_rule 62 = .ok (.getfield 64, 3) := by decide +kernel
theorem dX11_rule_65 : decode cX11_rule 65 = .ok (.goto 19, 3) := by decide +kernel
theorem dX11_rule_68 : decode cX11_rule 68 = .ok (.iload_n 1, 1) := by decide +kernel
theorem dX11_rule_69 : decode cX11_rule 69 = .ok (.iconst 1, 1) := by decide +kernel
theorem dX11_rule_70 : decode cX11_rule 70 = .ok (.if_icmp .ne 10, 3) := by decide +kernel
theorem dX11_rule_73 : decode cX11_rule 73 = .ok (.aload_n 0, 1) := by decide +kernel
theorem dX11_rule_74 : decode cX11_rule 74 = .ok (.getfield 67, 3) := by decide +kernel
theorem dX11_rule_77 : decode cX11_rule 77 = .ok (.goto 7, 3) := by decide +kernel
theorem dX11_rule_80 : decode cX11_rule 80 = .ok (.aload_n 0, 1) := by decide +kernel
theorem dX11_rule_81 : decode cX11_rule 81 = .ok (.getfield 70, 3) := by decide +kernel
theorem dX11_rule_84 : decode cX11_rule 84 = .ok (.istore_n 3, 1) := by decide +kernel
theorem dX11_rule_85 : decode cX11_rule 85 = .ok (.iload_n 1, 1) := by decide +kernel
theorem dX11_rule_86 : decode cX11_rule 86 = .ok (.ifCond .ne 11, 3) := by decide +kernel
theorem dX11_rule_89 : decode cX11_rule 89 = .ok (.aload_n 0, 1) := by decide +kernel
theorem dX11_rule_90 : decode cX11_rule 90 = .ok (.iload_n 2, 1) := by decide +kernel
theorem dX11_rule_91 : decode cX11_rule 91 = .ok (.putfield 64, 3) := by decide +kernel
theorem dX11_rule_94 : decode cX11_rule 94 = .ok (.goto 21, 3) := by decide +kernel
theorem dX11_rule_97 : decode cX11_rule 97 = .ok (.iload_n 1, 1) := by decide +kernel
theorem dX11_rule_98 : decode cX11_rule 98 = .ok (.iconst 1, 1) := by decide +kernel
theorem dX11_rule_99 : decode cX11_rule 99 = .ok (.if_icmp .ne 11, 3) := by decide +kernel
theorem dX11_rule_102 : decode cX11_rule 102 = .ok (.aload_n 0, 1) := by decide +kernel
theorem dX11_rule_103 : decode cX11_rule 103 = .ok (.iload_n 2, 1) := by decide +kernel
theorem dX11_rule_104 : decode cX11_rule 104 = .ok (.putfield 67, 3) := by decide +kernel
theorem dX11_rule_107 : decode cX11_rule 107 = .ok (.goto 8, 3) := by decide +kernel
theorem dX11_rule_110 : decode cX11_rule 110 = .ok (.aload_n 0, 1) := by decide +kernel
theorem dX11_rule_111 : decode cX11_rule 111 = .ok (.iload_n 2, 1) := by decide +kernel
theorem dX11_rule_112 : decode cX11_rule 112 = .ok (.putfield 70, 3) := by decide +kernel
theorem dX11_rule_115 : decode cX11_rule 115 = .ok (.iload_n 3, 1) := by decide +kernel
theorem dX11_rule_116 : decode cX11_rule 116 = .ok (.ireturn, 1) := by decide +kernel
theorem dX11_isPiece_0 : decode cX11_isPiece 0 = .ok (.aload_n 0, 1) := by decide +kernel
theorem dX11_isPiece_1 : decode cX11_isPiece 1 = .ok (.iload_n 1, 1) := by decide +kernel
theorem dX11_isPiece_2 : decode cX11_isPiece 2 = .ok (.iconst 0, 1) := by decide +kernel
theorem dX11_isPiece_3 : decode cX11_isPiece 3 = .ok (.aload_n 0, 1) := by decide +kernel
theorem dX11_isPiece_4 : decode cX11_isPiece 4 = .ok (.getfield 205, 3) := by decide +kernel
theorem dX11_isPiece_7 : decode cX11_isPiece 7 = .ok (.iconst 1, 1) := by decide +kernel
theorem dX11_isPiece_8 : decode cX11_isPiece 8 = .ok (.isub, 1) := by decide +kernel
theorem dX11_isPiece_9 : decode cX11_isPiece 9 = .ok (.invokestatic 276, 3) := by decide +kernel
theorem dX11_isPiece_12 : decode cX11_isPiece 12 = .ok (.ifCond .eq 23, 3) := by decide +kernel
theorem dX11_isPiece_15 : decode cX11_isPiece 15 = .ok (.iload_n 2, 1) := by decide +kernel
theorem dX11_isPiece_16 : decode cX11_isPiece 16 = .ok (.iconst 0, 1) := by decide +kernel
theorem dX11_isPiece_17 : decode cX11_isPiece 17 = .ok (.aload_n 0, 1) := by decide +kernel
theorem dX11_isPiece_18 : decode cX11_isPiece 18 = .ok (.getfield 55, 3) := by decide +kernel
theorem dX11_isPiece_21 : decode cX11_isPiece 21 = .ok (.iload_n 1, 1) := by decide +kernel
theorem dX11_isPiece_22 : decode cX11_isPiece 22 = .ok (.iaload, 1) := by decide +kernel
theorem dX11_isPiece_23 : decode cX11_isPiece 23 = .ok (.iconst 1, 1) := by decide +kernel
theorem dX11_isPiece_24 : decode cX11_isPiece 24 = .ok (.isub, 1) := by decide +kernel
theorem dX11_isPiece_25 : decode cX11_isPiece 25 = .ok (.invokestatic 276, 3) := by decide +kernel
theorem dX11_isPiece_28 : decode cX11_isPiece 28 = .ok (.ifCond .eq 7, 3) := by decide +kernel
theorem dX11_isPiece_31 : decode cX11_isPiece 31 = .ok (.iconst 0, 1) := by decide +kernel
theorem dX11_isPiece_32 : decode cX11_isPiece 32 = .ok (.goto 4, 3) := by decide +kernel
theorem dX11_isPiece_35 : decode cX11_isPiece 35 = .ok (.iconst 1, 1) := by decide +kernel
theorem dX11_isPiece_36 : decode cX11_isPiece 36 = .ok (.putfield 151, 3) := by decide +kernel
theorem dX11_isPiece_39 : decode cX11_isPiece 39 = .ok (.aload_n 0, 1) := by decide +kernel
theorem dX11_isPiece_40 : decode cX11_isPiece 40 = .ok (.getfield 151, 3) := by decide +kernel
theorem dX11_isPiece_43 : decode cX11_isPiece 43 = .ok (.ifCond .ne 7, 3) := by decide +kernel
theorem dX11_isPiece_46 : decode cX11_isPiece 46 = .ok (.iconst 1, 1) := by decide +kernel
theorem dX11_isPiece_47 : decode cX11_isPiece 47 = .ok (.goto 4, 3) := by decide +kernel
theorem dX11_isPiece_50 : decode cX11_isPiece 50 = .ok (.iconst 0, 1) := by decide +kernel
theorem dX11_isPiece_51 : decode cX11_isPiece 51 = .ok (.ireturn, 1) := by decide +kernel
theorem dX11_give_0 : decode cX11_give 0 = .ok (.aload_n 0, 1) := by decide +kernel
theorem dX11_give_1 : decode cX11_give 1 = .ok (.iload_n 1, 1) := by decide +kernel
theorem dX11_give_2 : decode cX11_give 2 = .ok (.iload_n 2, 1) := by decide +kernel
theorem dX11_give_3 : decode cX11_give 3 = .ok (.invokevirtual 336, 3) := by decide +kernel
theorem dX11_give_6 : decode cX11_give 6 = .ok (.ifCond .eq 71, 3) := by decide +kernel
theorem dX11_give_9 : decode cX11_give 9 = .ok (.aload_n 0, 1) := by decide +kernel
theorem dX11_give_10 : decode cX11_give 10 = .ok (.aload_n 0, 1) := by decide +kernel
theorem dX11_give_11 : decode cX11_give 11 = .ok (.iload_n 3, 1) := by decide +kernel
theorem dX11_give_12 : decode cX11_give 12 = .ok (.invokevirtual 333, 3) := by decide +kernel
theorem dX11_give_15 : decode cX11_give 15 = .ok (.ifCond .ne 7, 3) := by decide +kernel
theorem dX11_give_18 : decode cX11_give 18 = .ok (.iconst 1, 1) := by decide +kernel
theorem dX11_give_19 : decode cX11_give 19 = .ok (.goto 4, 3) := by decide +kernel
theorem dX11_give_22 : decode cX11_give 22 = .ok (.iconst 0, 1) := by decide +kernel
theorem dX11_give_23 : decode cX11_give 23 = .ok (.iconst 1, 1) := by decide +kernel
theorem dX11_give_24 : decode cX11_give 24 = .ok (.invokevirtual 280, 3) := by decide +kernel
theorem dX11_give_27 : decode cX11_give 27 = .ok (.ifCond .ne 50, 3) := by decide +kernel
theorem dX11_give_30 : decode cX11_give 30 = .ok (.aload_n 0, 1) := by decide +kernel
theorem dX11_give_31 : decode cX11_give 31 = .ok (.iload 4, 2) := by decide +kernel
theorem dX11_give_33 : decode cX11_give 33 = .ok (.iconst 0, 1) := by decide +kernel
theorem dX11_give_34 : decode cX11_give 34 = .ok (.ldc 224, 2) := by decide +kernel
theorem dX11_give_36 : decode cX11_give 36 = .ok (.invokestatic 276, 3) := by decide +kernel
theorem dX11_give_39 : decode cX11_give 39 = .ok (.ifCond .eq 26, 3) := by decide +kernel
theorem dX11_give_42 : decode cX11_give 42 = .ok (.iload 5, 2) := by decide +kernel
theorem dX11_give_44 : decode cX11_give 44 = .ok (.iconst 0, 1) := by decide +kernel
theorem dX11_give_45 : decode cX11_give 45 = .ok (.ldc 224, 2) := by decide +kernel
theorem dX11_give_47 : decode cX11_give 47 = .ok (.invokestatic 276, 3) := by decide +kernel
theorem dX11_give_50 : decode cX11_give 50 = .ok (.ifCond .eq 15, 3) := by decide +kernel
theorem dX11_give_53 : decode cX11_give 53 = .ok (.iload 6, 2) := by decide +kernel
theorem dX11_give_55 : decode cX11_give 55 = .ok (.iconst 1, 1) := by decide +kernel
theorem dX11_give_56 : decode cX11_give 56 = .ok (.sipush 1000, 3) := by decide +kernel
theorem dX11_give_59 : decode cX11_give 59 = .ok (.invokestatic 276, 3) := by decide +kernel
theorem dX11_give_62 : decode cX11_give 62 = .ok (.ifCond .ne 7, 3) := by decide +kernel
theorem dX11_give_65 : decode cX11_give 65 = .ok (.iconst 1, 1) := by decide +kernel
theorem dX11_give_66 : decode cX11_give 66 = .ok (.goto 4, 3) := by decide +kernel
theorem dX11_give_69 : decode cX11_give 69 = .ok (.iconst 0, 1) := by decide +kernel
theorem dX11_give_70 : decode cX11_give 70 = .ok (.iconst 2, 1) := by decide +kernel
theorem dX11_give_71 : decode cX11_give 71 = .ok (.invokevirtual 280, 3) := by decide +kernel
theorem dX11_give_74 : decode cX11_give 74 = .ok (.ifCond .eq 5, 3) := by decide +kernel
theorem dX11_give_77 : decode cX11_give 77 = .ok (.iconst 0, 1) := by decide +kernel
theorem dX11_give_78 : decode cX11_give 78 = .ok (.ireturn, 1) := by decide +kernel
theorem dX11_give_79 : decode cX11_give 79 = .ok (.bipush 20, 2) := by decide +kernel
theorem dX11_give_81 : decode cX11_give 81 = .ok (.iload_n 1, 1) := by decide +kernel
theorem dX11_give_82 : decode cX11_give 82 = .ok (.imul, 1) := by decide +kernel
theorem dX11_give_83 : decode cX11_give 83 = .ok (.iload_n 2, 1) := by decide +kernel
theorem dX11_give_84 : decode cX11_give 84 = .ok (.iadd, 1) := by decide +kernel
theorem dX11_give_85 : decode cX11_give 85 = .ok (.istore 7, 2) := by decide +kernel
theorem dX11_give_87 : decode cX11_give 87 = .ok (.aload_n 0, 1) := by decide +kernel
theorem dX11_give_88 : decode cX11_give 88 = .ok (.getfield 73, 3) := by decide +kernel
theorem dX11_give_91 : decode cX11_give 91 = .ok (.iload 7, 2) := by decide +kernel
theorem dX11_give_93 : decode cX11_give 93 = .ok (.iaload, 1) := by decide +kernel
theorem dX11_give_94 : decode cX11_give 94 = .ok (.ifCond .eq 5, 3) := by decide +kernel
theorem dX11_give_97 : decode cX11_give 97 = .ok (.iconst (-1), 1) := by decide +kernel
theorem dX11_give_98 : decode cX11_give 98 = .ok (.ireturn, 1) := by decide +kernel
theorem dX11_give_99 : decode cX11_give 99 = .ok (.aload_n 0, 1) := by decide +kernel
theorem dX11_give_100 : decode cX11_give 100 = .ok (.getfield 36, 3) := by decide +kernel
theorem dX11_give_103 : decode cX11_give 103 = .ok (.iload_n 1, 1) := by decide +kernel
theorem dX11_give_104 : decode cX11_give 104 = .ok (.iaload, 1) := by decide +kernel
theorem dX11_give_105 : decode cX11_give 105 = .ok (.iload 4, 2) := by decide +kernel
theorem dX11_give_107 : decode cX11_give 107 = .ok (.if_icmp .ge 6, 3) := by decide +kernel
theorem dX11_give_110 : decode cX11_give 110 = .ok (.bipush (-2), 2) := by decide +kernel
theorem dX11_give_112 : decode cX11_give 112 = .ok (.ireturn, 1) := by decide +kernel
theorem dX11_give_113 : decode cX11_give 113 = .ok (.aload_n 0, 1) := by decide +kernel
theorem dX11_give_114 : decode cX11_give 114 = .ok (.getfield 115, 3) := by decide +kernel
theorem dX11_give_117 : decode cX11_give 117 = .ok (.iload_n 3, 1) := by decide +kernel
theorem dX11_give_118 : decode cX11_give 118 = .ok (.iaload, 1) := by decide +kernel
theorem dX11_give_119 : decode cX11_give 119 = .ok (.iload 5, 2) := by decide +kernel
theorem dX11_give_121 : decode cX11_give 121 = .ok (.if_icmp .ge 6, 3) := by decide +kernel
theorem dX11_give_124 : decode cX11_give 124 = .ok (.bipush (-3), 2) := by decide +kernel
theorem dX11_give_126 : decode cX11_give 126 = .ok (.ireturn, 1) := by decide +kernel
theorem dX11_give_127 : decode cX11_give 127 = .ok (.aload_n 0, 1) := by decide +kernel
theorem dX11_give_128 : decode cX11_give 128 = .ok (.getfield 36, 3) := by decide +kernel
theorem dX11_give_131 : decode cX11_give 131 = .ok (.iload_n 1, 1) := by decide +kernel
theorem dX11_give_132 : decode cX11_give 132 = .ok (.dup2, 1) := by decide +kernel
theorem dX11_give_133 : decode cX11_give 133 = .ok (.iaload, 1) := by decide +kernel
theorem dX11_give_134 : decode cX11_give 134 = .ok (.iload 4, 2) := by decide +kernel
theorem dX11_give_136 : decode cX11_give 136 = .ok (.isub, 1) := by decide +kernel
theorem dX11_give_137 : decode cX11_give 137 = .ok (.iastore, 1) := by decide +kernel
theorem dX11_give_138 : decode cX11_give 138 = .ok (.aload_n 0, 1) := by decide +kernel
theorem dX11_give_139 : decode cX11_give 139 = .ok (.getfield 115, 3) := by decide +kernel
theorem dX11_give_142 : decode cX11_give 142 = .ok (.iload_n 3, 1) := by decide +kernel
theorem dX11_give_143 : decode cX11_give 143 = .ok (.dup2, 1) := by decide +kernel
theorem dX11_give_144 : decode cX11_give 144 = .ok (.iaload, 1) := by decide +kernel
theorem dX11_give_145 : decode cX11_give 145 = .ok (.iload 5, 2) := by decide +kernel
theorem dX11_give_147 : decode cX11_give 147 = .ok (.isub, 1) := by decide +kernel
theorem dX11_give_148 : decode cX11_give 148 = .ok (.iastore, 1) := by decide +kernel
theorem dX11_give_149 : decode cX11_give 149 = .ok (.aload_n 0, 1) := by decide +kernel
theorem dX11_give_150 : decode cX11_give 150 = .ok (.getfield 73, 3) := by decide +kernel
theorem dX11_give_153 : decode cX11_give 153 = .ok (.iload 7, 2) := by decide +kernel
theorem dX11_give_155 : decode cX11_give 155 = .ok (.iconst 1, 1) := by decide +kernel
theorem dX11_give_156 : decode cX11_give 156 = .ok (.iastore, 1) := by decide +kernel
theorem dX11_give_157 : decode cX11_give 157 = .ok (.aload_n 0, 1) := by decide +kernel
theorem dX11_give_158 : decode cX11_give 158 = .ok (.getfield 76, 3) := by decide +kernel
theorem dX11_give_161 : decode cX11_give 161 = .ok (.iload 7, 2) := by decide +kernel
theorem dX11_give_163 : decode cX11_give 163 = .ok (.iload_n 3, 1) := by decide +kernel
theorem dX11_give_164 : decode cX11_give 164 = .ok (.iastore, 1) := by decide +kernel
theorem dX11_give_165 : decode cX11_give 165 = .ok (.aload_n 0, 1) := by decide +kernel
theorem dX11_give_166 : decode cX11_give 166 = .ok (.getfield 79, 3) := by decide +kernel
theorem dX11_give_169 : decode cX11_give 169 = .ok (.iload 7, 2) := by decide +kernel
theorem dX11_give_171 : decode cX11_give 171 = .ok (.iload 4, 2) := by decide +kernel
theorem dX11_give_173 : decode cX11_give 173 = .ok (.iastore, 1) := by decide +kernel
theorem dX11_give_174 : decode cX11_give 174 = .ok (.aload_n 0, 1) := by decide +kernel
theorem dX11_give_175 : decode cX11_give 175 = .ok (.getfield 82, 3) := by decide +kernel
theorem dX11_give_178 : decode cX11_give 178 = .ok (.iload 7, 2) := by decide +kernel
theorem dX11_give_180 : decode cX11_give 180 = .ok (.iload 5, 2) := by decide +kernel
theorem dX11_give_182 : decode cX11_give 182 = .ok (.iastore, 1) := by decide +kernel
theorem dX11_give_183 : decode cX11_give 183 = .ok (.aload_n 0, 1) := by decide +kernel
theorem dX11_give_184 : decode cX11_give 184 = .ok (.getfield 85, 3) := by decide +kernel
theorem dX11_give_187 : decode cX11_give 187 = .ok (.iload 7, 2) := by decide +kernel
theorem dX11_give_189 : decode cX11_give 189 = .ok (.aload_n 0, 1) := by decide +kernel
theorem dX11_give_190 : decode cX11_give 190 = .ok (.getfield 340, 3) := by decide +kernel
theorem dX11_give_193 : decode cX11_give 193 = .ok (.iload 6, 2) := by decide +kernel
theorem dX11_give_195 : decode cX11_give 195 = .ok (.iadd, 1) := by decide +kernel
theorem dX11_give_196 : decode cX11_give 196 = .ok (.iastore, 1) := by decide +kernel
theorem dX11_give_197 : decode cX11_give 197 = .ok (.iconst 0, 1) := by decide +kernel
theorem dX11_give_198 : decode cX11_give 198 = .ok (.istore 8, 2) := by decide +kernel
theorem dX11_give_200 : decode cX11_give 200 = .ok (.iload 8, 2) := by decide +kernel
theorem dX11_give_202 : decode cX11_give 202 = .ok (.bipush 8, 2) := by decide +kernel
theorem dX11_give_204 : decode cX11_give 204 = .ok (.if_icmp .ge 17, 3) := by decide +kernel
theorem dX11_give_207 : decode cX11_give 207 = .ok (.aload_n 0, 1) := by decide +kernel
theorem dX11_give_208 : decode cX11_give 208 = .ok (.iload 7, 2) := by decide +kernel
theorem dX11_give_210 : decode cX11_give 210 = .ok (.iload 8, 2) := by decide +kernel
theorem dX11_give_212 : decode cX11_give 212 = .ok (.invokevirtual 343, 3) := by decide +kernel
theorem dX11_give_215 : decode cX11_give 215 = .ok (.iinc 8 1, 3) := by decide +kernel
theorem dX11_give_218 : decode cX11_give 218 = .ok (.goto (-18), 3) := by decide +kernel
theorem dX11_give_221 : decode cX11_give 221 = .ok (.iconst 1, 1) := by decide +kernel
theorem dX11_give_222 : decode cX11_give 222 = .ok (.ireturn, 1) := by decide +kernel
theorem dX11_claim_0 : decode cX11_claim 0 = .ok (.aload_n 0, 1) := by decide +kernel
theorem dX11_claim_1 : decode cX11_claim 1 = .ok (.iload_n 1, 1) := by decide +kernel
theorem dX11_claim_2 : decode cX11_claim 2 = .ok (.iload_n 2, 1) := by decide +kernel
theorem dX11_claim_3 : decode cX11_claim 3 = .ok (.invokevirtual 336, 3) := by decide +kernel
theorem dX11_claim_6 : decode cX11_claim 6 = .ok (.ifCond .ne 5, 3) := by decide +kernel
theorem dX11_claim_9 : decode cX11_claim 9 = .ok (.iconst 0, 1) := by decide +kernel
theorem dX11_claim_10 : decode cX11_claim 10 = .ok (.ireturn, 1) := by decide +kernel
theorem dX11_claim_11 : decode cX11_claim 11 = .ok (.bipush 20, 2) := by decide +kernel
theorem dX11_claim_13 : decode cX11_claim 13 = .ok (.iload_n 1, 1) := by decide +kernel
theorem dX11_claim_14 : decode cX11_claim 14 = .ok (.imul, 1) := by decide +kernel
theorem dX11_claim_15 : decode cX11_claim 15 = .ok (.iload_n 2, 1) := by decide +kernel
theorem dX11_claim_16 : decode cX11_claim 16 = .ok (.iadd, 1) := by decide +kernel
theorem dX11_claim_17 : decode cX11_claim 17 = .ok (.istore 4, 2) := by decide +kernel
theorem dX11_claim_19 : decode cX11_claim 19 = .ok (.aload_n 0, 1) := by decide +kernel
theorem dX11_claim_20 : decode cX11_claim 20 = .ok (.getfield 73, 3) := by decide +kernel
theorem dX11_claim_23 : decode cX11_claim 23 = .ok (.iload 4, 2) := by decide +kernel
theorem dX11_claim_25 : decode cX11_claim 25 = .ok (.iaload, 1) := by decide +kernel
theorem dX11_claim_26 : decode cX11_claim 26 = .ok (.iconst 1, 1) := by decide +kernel
theorem dX11_claim_27 : decode cX11_claim 27 = .ok (.if_icmp .eq 5, 3) := by decide +kernel
theorem dX11_claim_30 : decode cX11_claim 30 = .ok (.iconst (-1), 1) := by decide +kernel
theorem dX11_claim_31 : decode cX11_claim 31 = .ok (.ireturn, 1) := by decide +kernel
theorem dX11_claim_32 : decode cX11_claim 32 = .ok (.aload_n 0, 1) := by decide +kernel
theorem dX11_claim_33 : decode cX11_claim 33 = .ok (.getfield 73, 3) := by decide +kernel
theorem dX11_claim_36 : decode cX11_claim 36 = .ok (.iload 4, 2) := by decide +kernel
theorem dX11_claim_38 : decode cX11_claim 38 = .ok (.iconst 2, 1) := by decide +kernel
theorem dX11_claim_39 : decode cX11_claim 39 = .ok (.iastore, 1) := by decide +kernel
theorem dX11_claim_40 : decode cX11_claim 40 = .ok (.aload_n 0, 1) := by decide +kernel
theorem dX11_claim_41 : decode cX11_claim 41 = .ok (.getfield 88, 3) := by decide +kernel
theorem dX11_claim_44 : decode cX11_claim 44 = .ok (.iload 4, 2) := by decide +kernel
theorem dX11_claim_46 : decode cX11_claim 46 = .ok (.iload_n 3, 1) := by decide +kernel
theorem dX11_claim_47 : decode cX11_claim 47 = .ok (.iastore, 1) := by decide +kernel
theorem dX11_claim_48 : decode cX11_claim 48 = .ok (.aload_n 0, 1) := by decide +kernel
theorem dX11_claim_49 : decode cX11_claim 49 = .ok (.getfield 85, 3) := by decide +kernel
theorem dX11_claim_52 : decode cX11_claim 52 = .ok (.iload 4, 2) := by decide +kernel
theorem dX11_claim_54 : decode cX11_claim 54 = .ok (.aload_n 0, 1) := by decide +kernel
theorem dX11_claim_55 : decode cX11_claim 55 = .ok (.getfield 340, 3) := by decide +kernel
theorem dX11_claim_58 : decode cX11_claim 58 = .ok (.iastore, 1) := by decide +kernel
theorem dX11_claim_59 : decode cX11_claim 59 = .ok (.iconst 1, 1) := by decide +kernel
theorem dX11_claim_60 : decode cX11_claim 60 = .ok (.ireturn, 1) := by decide +kernel
theorem dX11_asks_0 : decode cX11_asks 0 = .ok (.aload_n 0, 1) := by decide +kernel
theorem dX11_asks_1 : decode cX11_asks 1 = .ok (.getfield 109, 3) := by decide +kernel
theorem dX11_asks_4 : decode cX11_asks 4 = .ok (.iconst 2, 1) := by decide +kernel
theorem dX11_asks_5 : decode cX11_asks 5 = .ok (.iload_n 1, 1) := by decide +kernel
theorem dX11_asks_6 : decode cX11_asks 6 = .ok (.imul, 1) := by decide +kernel
theorem dX11_asks_7 : decode cX11_asks 7 = .ok (.iconst 0, 1) := by decide +kernel
theorem dX11_asks_8 : decode cX11_asks 8 = .ok (.bastore, 1) := by decide +kernel
theorem dX11_asks_9 : decode cX11_asks 9 = .ok (.aload_n 0, 1) := by decide +kernel
theorem dX11_asks_10 : decode cX11_asks 10 = .ok (.getfield 109, 3) := by decide +kernel
theorem dX11_asks_13 : decode cX11_asks 13 = .ok (.iconst 2, 1) := by decide +kernel
theorem dX11_asks_14 : decode cX11_asks 14 = .ok (.iload_n 1, 1) := by decide +kernel
theorem dX11_asks_15 : decode cX11_asks 15 = .ok (.imul, 1) := by decide +kernel
theorem dX11_asks_16 : decode cX11_asks 16 = .ok (.iconst 1, 1) := by decide +kernel
theorem dX11_asks_17 : decode cX11_asks 17 = .ok (.iadd, 1) := by decide +kernel
theorem dX11_asks_18 : decode cX11_asks 18 = .ok (.iconst 0, 1) := by decide +kernel
theorem dX11_asks_19 : decode cX11_asks 19 = .ok (.bastore, 1) := by decide +kernel
theorem dX11_asks_20 : decode cX11_asks 20 = .ok (.aload_n 0, 1) := by decide +kernel
theorem dX11_asks_21 : decode cX11_asks 21 = .ok (.getfield 85, 3) := by decide +kernel
theorem dX11_asks_24 : decode cX11_asks 24 = .ok (.iload_n 1, 1) := by decide +kernel
theorem dX11_asks_25 : decode cX11_asks 25 = .ok (.aload_n 0, 1) := by decide +kernel
theorem dX11_asks_26 : decode cX11_asks 26 = .ok (.getfield 340, 3) := by decide +kernel
theorem dX11_asks_29 : decode cX11_asks 29 = .ok (.iastore, 1) := by decide +kernel
theorem dX11_asks_30 : decode cX11_asks 30 = .ok (.return_, 1) := by decide +kernel
theorem dX11_doubt_0 : decode cX11_doubt 0 = .ok (.aload_n 0, 1) := by decide +kernel
theorem dX11_doubt_1 : decode cX11_doubt 1 = .ok (.iload_n 1, 1) := by decide +kernel
theorem dX11_doubt_2 : decode cX11_doubt 2 = .ok (.iload_n 2, 1) := by decide +kernel
theorem dX11_doubt_3 : decode cX11_doubt 3 = .ok (.invokevirtual 336, 3) := by decide +kernel
theorem dX11_doubt_6 : decode cX11_doubt 6 = .ok (.ifCond .eq 24, 3) := by decide +kernel
theorem dX11_doubt_9 : decode cX11_doubt 9 = .ok (.aload_n 0, 1) := by decide +kernel
theorem dX11_doubt_10 : decode cX11_doubt 10 = .ok (.aload_n 0, 1) := by decide +kernel
theorem dX11_doubt_11 : decode cX11_doubt 11 = .ok (.iload_n 3, 1) := by decide +kernel
theorem dX11_doubt_12 : decode cX11_doubt 12 = .ok (.invokevirtual 333, 3) := by decide +kernel
theorem dX11_doubt_15 : decode cX11_doubt 15 = .ok (.ifCond .ne 7, 3) := by decide +kernel
theorem dX11_doubt_18 : decode cX11_doubt 18 = .ok (.iconst 1, 1) := by decide +kernel
theorem dX11_doubt_19 : decode cX11_doubt 19 = .ok (.goto 4, 3) := by decide +kernel
theorem dX11_doubt_22 : decode cX11_doubt 22 = .ok (.iconst 0, 1) := by decide +kernel
theorem dX11_doubt_23 : decode cX11_doubt 23 = .ok (.iconst 1, 1) := by decide +kernel
theorem dX11_doubt_24 : decode cX11_doubt 24 = .ok (.invokevirtual 280, 3) := by decide +kernel
theorem dX11_doubt_27 : decode cX11_doubt 27 = .ok (.ifCond .eq 5, 3) := by decide +kernel
theorem dX11_doubt_30 : decode cX11_doubt 30 = .ok (.iconst 0, 1) := by decide +kernel
theorem dX11_doubt_31 : decode cX11_doubt 31 = .ok (.ireturn, 1) := by decide +kernel
theorem dX11_doubt_32 : decode cX11_doubt 32 = .ok (.bipush 20, 2) := by decide +kernel
theorem dX11_doubt_34 : decode cX11_doubt 34 = .ok (.iload_n 1, 1) := by decide +kernel
theorem dX11_doubt_35 : decode cX11_doubt 35 = .ok (.imul, 1) := by decide +kernel
theorem dX11_doubt_36 : decode cX11_doubt 36 = .ok (.iload_n 2, 1) := by decide +kernel
theorem dX11_doubt_37 : decode cX11_doubt 37 = .ok (.iadd, 1) := by decide +kernel
theorem dX11_doubt_38 : decode cX11_doubt 38 = .ok (.istore 5, 2) := by decide +kernel
theorem dX11_doubt_40 : decode cX11_doubt 40 = .ok (.aload_n 0, 1) := by decide +kernel
theorem dX11_doubt_41 : decode cX11_doubt 41 = .ok (.getfield 73, 3) := by decide +kernel
theorem dX11_doubt_44 : decode cX11_doubt 44 = .ok (.iload 5, 2) := by decide +kernel
theorem dX11_doubt_46 : decode cX11_doubt 46 = .ok (.iaload, 1) := by decide +kernel
theorem dX11_doubt_47 : decode cX11_doubt 47 = .ok (.iconst 2, 1) := by decide +kernel
theorem dX11_doubt_48 : decode cX11_doubt 48 = .ok (.if_icmp .eq 5, 3) := by decide +kernel
theorem dX11_doubt_51 : decode cX11_doubt 51 = .ok (.iconst (-1), 1) := by decide +kernel
theorem dX11_doubt_52 : decode cX11_doubt 52 = .ok (.ireturn, 1) := by decide +kernel
theorem dX11_doubt_53 : decode cX11_doubt 53 = .ok (.aload_n 0, 1) := by decide +kernel
theorem dX11_doubt_54 : decode cX11_doubt 54 = .ok (.getfield 76, 3) := by decide +kernel
theorem dX11_doubt_57 : decode cX11_doubt 57 = .ok (.iload 5, 2) := by decide +kernel
theorem dX11_doubt_59 : decode cX11_doubt 59 = .ok (.iaload, 1) := by decide +kernel
theorem dX11_doubt_60 : decode cX11_doubt 60 = .ok (.iload_n 3, 1) := by decide +kernel
theorem dX11_doubt_61 : decode cX11_doubt 61 = .ok (.if_icmp .ne 6, 3) := by decide +kernel
theorem dX11_doubt_64 : decode cX11_doubt 64 = .ok (.bipush (-2), 2) := by decide +kernel
theorem dX11_doubt_66 : decode cX11_doubt 66 = .ok (.ireturn, 1) := by decide +kernel
theorem dX11_doubt_67 : decode cX11_doubt 67 = .ok (.aload_n 0, 1) := by decide +kernel
theorem dX11_doubt_68 : decode cX11_doubt 68 = .ok (.getfield 88, 3) := by decide +kernel
theorem dX11_doubt_71 : decode cX11_doubt 71 = .ok (.iload 5, 2) := by decide +kernel
theorem dX11_doubt_73 : decode cX11_doubt 73 = .ok (.iaload, 1) := by decide +kernel
theorem dX11_doubt_74 : decode cX11_doubt 74 = .ok (.iload 4, 2) := by decide +kernel
theorem dX11_doubt_76 : decode cX11_doubt 76 = .ok (.if_icmp .ne 6, 3) := by decide +kernel
theorem dX11_doubt_79 : decode cX11_doubt 79 = .ok (.bipush (-3), 2) := by decide +kernel
theorem dX11_doubt_81 : decode cX11_doubt 81 = .ok (.ireturn, 1) := by decide +kernel
theorem dX11_doubt_82 : decode cX11_doubt 82 = .ok (.iload_n 2, 1) := by decide +kernel
theorem dX11_doubt_83 : decode cX11_doubt 83 = .ok (.ifCond .le 45, 3) := by decide +kernel
theorem dX11_doubt_86 : decode cX11_doubt 86 = .ok (.aload_n 0, 1) := by decide +kernel
theorem dX11_doubt_87 : decode cX11_doubt 87 = .ok (.getfield 73, 3) := by decide +kernel
theorem dX11_doubt_90 : decode cX11_doubt 90 = .ok (.iload 5, 2) := by decide +kernel
theorem dX11_doubt_92 : decode cX11_doubt 92 = .ok (.iconst 1, 1) := by decide +kernel
theorem dX11_doubt_93 : decode cX11_doubt 93 = .ok (.isub, 1) := by decide +kernel
theorem dX11_doubt_94 : decode cX11_doubt 94 = .ok (.iaload, 1) := by decide +kernel
theorem dX11_doubt_95 : decode cX11_doubt 95 = .ok (.iconst 2, 1) := by decide +kernel
theorem dX11_doubt_96 : decode cX11_doubt 96 = .ok (.if_icmp .eq 32, 3) := by decide +kernel
theorem dX11_doubt_99 : decode cX11_doubt 99 = .ok (.aload_n 0, 1) := by decide +kernel
theorem dX11_doubt_100 : decode cX11_doubt 100 = .ok (.getfield 73, 3) := by decide +kernel
theorem dX11_doubt_103 : decode cX11_doubt 103 = .ok (.iload 5, 2) := by decide +kernel
theorem dX11_doubt_105 : decode cX11_doubt 105 = .ok (.iconst 1, 1) := by decide +kernel
theorem dX11_doubt_106 : decode cX11_doubt 106 = .ok (.isub, 1) := by decide +kernel
theorem dX11_doubt_107 : decode cX11_doubt 107 = .ok (.iaload, 1) := by decide +kernel
theorem dX11_doubt_108 : decode cX11_doubt 108 = .ok (.iconst 5, 1) := by decide +kernel
theorem dX11_doubt_109 : decode cX11_doubt 109 = .ok (.if_icmp .eq 19, 3) := by decide +kernel
theorem dX11_doubt_112 : decode cX11_doubt 112 = .ok (.aload_n 0, 1) := by decide +kernel
theorem dX11_doubt_113 : decode cX11_doubt 113 = .ok (.getfield 73, 3) := by decide +kernel
theorem dX11_doubt_116 : decode cX11_doubt 116 = .ok (.iload 5, 2) := by decide +kernel
theorem dX11_doubt_118 : decode cX11_doubt 118 = .ok (.iconst 1, 1) := by decide +kernel
theorem dX11_doubt_119 : decode cX11_doubt 119 = .ok (.isub, 1) := by decide +kernel
theorem dX11_doubt_120 : decode cX11_doubt 120 = .ok (.iaload, 1) := by decide +kernel
theorem dX11_doubt_121 : decode cX11_doubt 121 = .ok (.iconst 4, 1) := by decide +kernel
theorem dX11_doubt_122 : decode cX11_doubt 122 = .ok (.if_icmp .eq 6, 3) := by decide +kernel
theorem dX11_doubt_125 : decode cX11_doubt 125 = .ok (.bipush (-4), 2) := by decide +kernel
theorem dX11_doubt_127 : decode cX11_doubt 127 = .ok (.ireturn, 1) := by decide +kernel
theorem dX11_doubt_128 : decode cX11_doubt 128 = .ok (.aload_n 0, 1) := by decide +kernel
theorem dX11_doubt_129 : decode cX11_doubt 129 = .ok (.getfield 115, 3) := by decide +kernel
theorem dX11_doubt_132 : decode cX11_doubt 132 = .ok (.iload_n 3, 1) := by decide +kernel
theorem dX11_doubt_133 : decode cX11_doubt 133 = .ok (.iaload, 1) := by decide +kernel
theorem dX11_doubt_134 : decode cX11_doubt 134 = .ok (.aload_n 0, 1) := by decide +kernel
theorem dX11_doubt_135 : decode cX11_doubt 135 = .ok (.getfield 82, 3) := by decide +kernel
theorem dX11_doubt_138 : decode cX11_doubt 138 = .ok (.iload 5, 2) := by decide +kernel
theorem dX11_doubt_140 : decode cX11_doubt 140 = .ok (.iaload, 1) := by decide +kernel
theorem dX11_doubt_141 : decode cX11_doubt 141 = .ok (.if_icmp .ge 6, 3) := by decide +kernel
theorem dX11_doubt_144 : decode cX11_doubt 144 = .ok (.bipush (-5), 2) := by decide +kernel
theorem dX11_doubt_146 : decode cX11_doubt 146 = .ok (.ireturn, 1) := by decide +kernel
theorem dX11_doubt_147 : decode cX11_doubt 147 = .ok (.aload_n 0, 1) := by decide +kernel
theorem dX11_doubt_148 : decode cX11_doubt 148 = .ok (.getfield 115, 3) := by decide +kernel
theorem dX11_doubt_151 : decode cX11_doubt 151 = .ok (.iload_n 3, 1) := by decide +kernel
theorem dX11_doubt_152 : decode cX11_doubt 152 = .ok (.dup2, 1) := by decide +kernel
theorem dX11_doubt_153 : decode cX11_doubt 153 = .ok (.iaload, 1) := by decide +kernel
theorem dX11_doubt_154 : decode cX11_doubt 154 = .ok (.aload_n 0, 1) := by decide +kernel
theorem dX11_doubt_155 : decode cX11_doubt 155 = .ok (.getfield 82, 3) := by decide +kernel
theorem dX11_doubt_158 : decode cX11_doubt 158 = .ok (.iload 5, 2) := by decide +kernel
theorem dX11_doubt_160 : decode cX11_doubt 160 = .ok (.iaload, 1) := by decide +kernel
theorem dX11_doubt_161 : decode cX11_doubt 161 = .ok (.isub, 1) := by decide +kernel
theorem dX11_doubt_162 : decode cX11_doubt 162 = .ok (.iastore, 1) := by decide +kernel
theorem dX11_doubt_163 : decode cX11_doubt 163 = .ok (.aload_n 0, 1) := by decide +kernel
theorem dX11_doubt_164 : decode cX11_doubt 164 = .ok (.getfield 73, 3) := by decide +kernel
theorem dX11_doubt_167 : decode cX11_doubt 167 = .ok (.iload 5, 2) := by decide +kernel
theorem dX11_doubt_169 : decode cX11_doubt 169 = .ok (.iconst 3, 1) := by decide +kernel
theorem dX11_doubt_170 : decode cX11_doubt 170 = .ok (.iastore, 1) := by decide +kernel
theorem dX11_doubt_171 : decode cX11_doubt 171 = .ok (.aload_n 0, 1) := by decide +kernel
theorem dX11_doubt_172 : decode cX11_doubt 172 = .ok (.getfield 91, 3) := by decide +kernel
theorem dX11_doubt_175 : decode cX11_doubt 175 = .ok (.iload 5, 2) := by decide +kernel
theorem dX11_doubt_177 : decode cX11_doubt 177 = .ok (.iload_n 3, 1) := by decide +kernel
theorem dX11_doubt_178 : decode cX11_doubt 178 = .ok (.iastore, 1) := by decide +kernel
theorem dX11_doubt_179 : decode cX11_doubt 179 = .ok (.aload_n 0, 1) := by decide +kernel
theorem dX11_doubt_180 : decode cX11_doubt 180 = .ok (.getfield 94, 3) := by decide +kernel
theorem dX11_doubt_183 : decode cX11_doubt 183 = .ok (.iload 5, 2) := by decide +kernel
theorem dX11_doubt_185 : decode cX11_doubt 185 = .ok (.aload_n 0, 1) := by decide +kernel
theorem dX11_doubt_186 : decode cX11_doubt 186 = .ok (.iload 5, 2) := by decide +kernel
theorem dX11_doubt_188 : decode cX11_doubt 188 = .ok (.invokevirtual 327, 3) := by decide +kernel
theorem dX11_doubt_191 : decode cX11_doubt 191 = .ok (.iastore, 1) := by decide +kernel
theorem dX11_doubt_192 : decode cX11_doubt 192 = .ok (.aload_n 0, 1) := by decide +kernel
theorem dX11_doubt_193 : decode cX11_doubt 193 = .ok (.getfield 97, 3) := by decide +kernel
theorem dX11_doubt_196 : decode cX11_doubt 196 = .ok (.iload 5, 2) := by decide +kernel
theorem dX11_doubt_198 : decode cX11_doubt 198 = .ok (.iload_n 2, 1) := by decide +kernel
theorem dX11_doubt_199 : decode cX11_doubt 199 = .ok (.ifCond .ne 12, 3) := by decide +kernel
theorem dX11_doubt_202 : decode cX11_doubt 202 = .ok (.aload_n 0, 1) := by decide +kernel
theorem dX11_doubt_203 : decode cX11_doubt 203 = .ok (.iload_n 1, 1) := by decide +kernel
theorem dX11_doubt_204 : decode cX11_doubt 204 = .ok (.iconst 0, 1) := by decide +kernel
theorem dX11_doubt_205 : decode cX11_doubt 205 = .ok (.invokevirtual 324, 3) := by decide +kernel
theorem dX11_doubt_208 : decode cX11_doubt 208 = .ok (.goto 12, 3) := by decide +kernel
theorem dX11_doubt_211 : decode cX11_doubt 211 = .ok (.aload_n 0, 1) := by decide +kernel
theorem dX11_doubt_212 : decode cX11_doubt 212 = .ok (.getfield 88, 3) := by decide +kernel
theorem dX11_doubt_215 : decode cX11_doubt 215 = .ok (.iload 5, 2) := by decide +kernel
theorem dX11_doubt_217 : decode cX11_doubt 217 = .ok (.iconst 1, 1) := by decide +kernel
theorem dX11_doubt_218 : decode cX11_doubt 218 = .ok (.isub, 1) := by decide +kernel
theorem dX11_doubt_219 : decode cX11_doubt 219 = .ok (.iaload, 1) := by decide +kernel
theorem dX11_doubt_220 : decode cX11_doubt 220 = .ok (.iastore, 1) := by decide +kernel
theorem dX11_doubt_221 : decode cX11_doubt 221 = .ok (.aload_n 0, 1) := by decide +kernel
theorem dX11_doubt_222 : decode cX11_doubt 222 = .ok (.getfield 100, 3) := by decide +kernel
theorem dX11_doubt_225 : decode cX11_doubt 225 = .ok (.iload 5, 2) := by decide +kernel
theorem dX11_doubt_227 : decode cX11_doubt 227 = .ok (.aload_n 0, 1) := by decide +kernel
theorem dX11_doubt_228 : decode cX11_doubt 228 = .ok (.iload 5, 2) := by decide +kernel
theorem dX11_doubt_230 : decode cX11_doubt 230 = .ok (.invokevirtual 346, 3) := by decide +kernel
theorem dX11_doubt_233 : decode cX11_doubt 233 = .ok (.iastore, 1) := by decide +kernel
theorem dX11_doubt_234 : decode cX11_doubt 234 = .ok (.aload_n 0, 1) := by decide +kernel
theorem dX11_doubt_235 : decode cX11_doubt 235 = .ok (.getfield 103, 3) := by decide +kernel
theorem dX11_doubt_238 : decode cX11_doubt 238 = .ok (.iconst 2, 1) := by decide +kernel
theorem dX11_doubt_239 : decode cX11_doubt 239 = .ok (.iload 5, 2) := by decide +kernel
theorem dX11_doubt_241 : decode cX11_doubt 241 = .ok (.imul, 1) := by decide +kernel
theorem dX11_doubt_242 : decode cX11_doubt 242 = .ok (.aload_n 0, 1) := by decide +kernel
theorem dX11_doubt_243 : decode cX11_doubt 243 = .ok (.getfield 88, 3) := by decide +kernel
theorem dX11_doubt_246 : decode cX11_doubt 246 = .ok (.iload 5, 2) := by decide +kernel
theorem dX11_doubt_248 : decode cX11_doubt 248 = .ok (.iaload, 1) := by decide +kernel
theorem dX11_doubt_249 : decode cX11_doubt 249 = .ok (.iastore, 1) := by decide +kernel
theorem dX11_doubt_250 : decode cX11_doubt 250 = .ok (.aload_n 0, 1) := by decide +kernel
theorem dX11_doubt_251 : decode cX11_doubt 251 = .ok (.getfield 103, 3) := by decide +kernel
theorem dX11_doubt_254 : decode cX11_doubt 254 = .ok (.iconst 2, 1) := by decide +kernel
theorem dX11_doubt_255 : decode cX11_doubt 255 = .ok (.iload 5, 2) := by decide +kernel
theorem dX11_doubt_257 : decode cX11_doubt 257 = .ok (.imul, 1) := by decide +kernel
theorem dX11_doubt_258 : decode cX11_doubt 258 = .ok (.iconst 1, 1) := by decide +kernel
theorem dX11_doubt_259 : decode cX11_doubt 259 = .ok (.iadd, 1) := by decide +kernel
theorem dX11_doubt_260 : decode cX11_doubt 260 = .ok (.iload 4, 2) := by decide +kernel
theorem dX11_doubt_262 : decode cX11_doubt 262 = .ok (.iastore, 1) := by decide +kernel
theorem dX11_doubt_263 : decode cX11_doubt 263 = .ok (.aload_n 0, 1) := by decide +kernel
theorem dX11_doubt_264 : decode cX11_doubt 264 = .ok (.iload 5, 2) := by decide +kernel
theorem dX11_doubt_266 : decode cX11_doubt 266 = .ok (.invokevirtual 349, 3) := by decide +kernel
theorem dX11_doubt_269 : decode cX11_doubt 269 = .ok (.aload_n 0, 1) := by decide +kernel
theorem dX11_doubt_270 : decode cX11_doubt 270 = .ok (.getfield 100, 3) := by decide +kernel
theorem dX11_doubt_273 : decode cX11_doubt 273 = .ok (.iload 5, 2) := by decide +kernel
theorem dX11_doubt_275 : decode cX11_doubt 275 = .ok (.iaload, 1) := by decide +kernel
theorem dX11_doubt_276 : decode cX11_doubt 276 = .ok (.aload_n 0, 1) := by decide +kernel
theorem dX11_doubt_277 : decode cX11_doubt 277 = .ok (.getfield 94, 3) := by decide +kernel
theorem dX11_doubt_280 : decode cX11_doubt 280 = .ok (.iload 5, 2) := by decide +kernel
theorem dX11_doubt_282 : decode cX11_doubt 282 = .ok (.iaload, 1) := by decide +kernel
theorem dX11_doubt_283 : decode cX11_doubt 283 = .ok (.isub, 1) := by decide +kernel
theorem dX11_doubt_284 : decode cX11_doubt 284 = .ok (.iconst 1, 1) := by decide +kernel
theorem dX11_doubt_285 : decode cX11_doubt 285 = .ok (.if_icmp .ne 9, 3) := by decide +kernel
theorem dX11_doubt_288 : decode cX11_doubt 288 = .ok (.aload_n 0, 1) := by decide +kernel
theorem dX11_doubt_289 : decode cX11_doubt 289 = .ok (.iload 5, 2) := by decide +kernel
theorem dX11_doubt_291 : decode cX11_doubt 291 = .ok (.invokevirtual 352, 3) := by decide +kernel
theorem dX11_doubt_294 : decode cX11_doubt 294 = .ok (.iconst 1, 1) := by decide +kernel
theorem dX11_doubt_295 : decode cX11_doubt 295 = .ok (.ireturn, 1) := by decide +kernel
