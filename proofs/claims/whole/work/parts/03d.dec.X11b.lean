theorem dX11_statement_0 : decode cX11_statement 0 = .ok (.aload_n 0, 1) := by decide +kernel
theorem dX11_statement_1 : decode cX11_statement 1 = .ok (.invokevirtual 229, 3) := by decide +kernel
theorem dX11_statement_4 : decode cX11_statement 4 = .ok (.istore_n 1, 1) := by decide +kernel
theorem dX11_statement_5 : decode cX11_statement 5 = .ok (.iload_n 1, 1) := by decide +kernel
theorem dX11_statement_6 : decode cX11_statement 6 = .ok (.ifCond .lt 28, 3) := by decide +kernel
theorem dX11_statement_9 : decode cX11_statement 9 = .ok (.aload_n 0, 1) := by decide +kernel
theorem dX11_statement_10 : decode cX11_statement 10 = .ok (.dup, 1) := by decide +kernel
theorem dX11_statement_11 : decode cX11_statement 11 = .ok (.getfield 160, 3) := by decide +kernel
theorem dX11_statement_14 : decode cX11_statement 14 = .ok (.iconst 1, 1) := by decide +kernel
theorem dX11_statement_15 : decode cX11_statement 15 = .ok (.iadd, 1) := by decide +kernel
theorem dX11_statement_16 : decode cX11_statement 16 = .ok (.putfield 160, 3) := by decide +kernel
theorem dX11_statement_19 : decode cX11_statement 19 = .ok (.aload_n 0, 1) := by decide +kernel
theorem dX11_statement_20 : decode cX11_statement 20 = .ok (.bipush 61, 2) := by decide +kernel
theorem dX11_statement_22 : decode cX11_statement 22 = .ok (.invokevirtual 198, 3) := by decide +kernel
theorem dX11_statement_25 : decode cX11_statement 25 = .ok (.aload_n 0, 1) := by decide +kernel
theorem dX11_statement_26 : decode cX11_statement 26 = .ok (.iconst 3, 1) := by decide +kernel
theorem dX11_statement_27 : decode cX11_statement 27 = .ok (.iload_n 1, 1) := by decide +kernel
theorem dX11_statement_28 : decode cX11_statement 28 = .ok (.invokevirtual 262, 3) := by decide +kernel
theorem dX11_statement_31 : decode cX11_statement 31 = .ok (.goto 126, 3) := by decide +kernel
theorem dX11_statement_34 : decode cX11_statement 34 = .ok (.aload_n 0, 1) := by decide +kernel
theorem dX11_statement_35 : decode cX11_statement 35 = .ok (.ldc 232, 2) := by decide +kernel
theorem dX11_statement_37 : decode cX11_statement 37 = .ok (.invokevirtual 234, 3) := by decide +kernel
theorem dX11_statement_40 : decode cX11_statement 40 = .ok (.ifCond .eq 34, 3) := by decide +kernel
theorem dX11_statement_43 : decode cX11_statement 43 = .ok (.aload_n 0, 1) := by decide +kernel
theorem dX11_statement_44 : decode cX11_statement 44 = .ok (.bipush 91, 2) := by decide +kernel
theorem dX11_statement_46 : decode cX11_statement 46 = .ok (.invokevirtual 237, 3) := by decide +kernel
theorem dX11_statement_49 : decode cX11_statement 49 = .ok (.aload_n 0, 1) := by decide +kernel
theorem dX11_statement_50 : decode cX11_statement 50 = .ok (.invokevirtual 240, 3) := by decide +kernel
theorem dX11_statement_53 : decode cX11_statement 53 = .ok (.aload_n 0, 1) := by decide +kernel
theorem dX11_statement_54 : decode cX11_statement 54 = .ok (.bipush 93, 2) := by decide +kernel
theorem dX11_statement_56 : decode cX11_statement 56 = .ok (.invokevirtual 243, 3) := by decide +kernel
theorem dX11_statement_59 : decode cX11_statement 59 = .ok (.aload_n 0, 1) := by decide +kernel
theorem dX11_statement_60 : decode cX11_statement 60 = .ok (.bipush 61, 2) := by decide +kernel
theorem dX11_statement_62 : decode cX11_statement 62 = .ok (.invokevirtual 198, 3) := by decide +kernel
theorem dX11_statement_65 : decode cX11_statement 65 = .ok (.aload_n 0, 1) := by decide +kernel
theorem dX11_statement_66 : decode cX11_statement 66 = .ok (.iconst 5, 1) := by decide +kernel
theorem dX11_statement_67 : decode cX11_statement 67 = .ok (.iconst 0, 1) := by decide +kernel
theorem dX11_statement_68 : decode cX11_statement 68 = .ok (.invokevirtual 262, 3) := by decide +kernel
theorem dX11_statement_71 : decode cX11_statement 71 = .ok (.goto 86, 3) := by decide +kernel
theorem dX11_statement_74 : decode cX11_statement 74 = .ok (.aload_n 0, 1) := by decide +kernel
theorem dX11_statement_75 : decode cX11_statement 75 = .ok (.ldc 246, 2) := by decide +kernel
theorem dX11_statement_77 : decode cX11_statement 77 = .ok (.invokevirtual 234, 3) := by decide +kernel
theorem dX11_statement_80 : decode cX11_statement 80 = .ok (.ifCond .eq 13, 3) := by decide +kernel
theorem dX11_statement_83 : decode cX11_statement 83 = .ok (.aload_n 0, 1) := by decide +kernel
theorem dX11_statement_84 : decode cX11_statement 84 = .ok (.bipush 16, 2) := by decide +kernel
theorem dX11_statement_86 : decode cX11_statement 86 = .ok (.iconst 0, 1) := by decide +kernel
theorem dX11_statement_87 : decode cX11_statement 87 = .ok (.invokevirtual 262, 3) := by decide +kernel
theorem dX11_statement_90 : decode cX11_statement 90 = .ok (.goto 67, 3) := by decide +kernel
theorem dX11_statement_93 : decode cX11_statement 93 = .ok (.aload_n 0, 1) := by decide +kernel
theorem dX11_statement_94 : decode cX11_statement 94 = .ok (.ldc 248, 2) := by decide +kernel
theorem dX11_statement_96 : decode cX11_statement 96 = .ok (.invokevirtual 234, 3) := by decide +kernel
theorem dX11_statement_99 : decode cX11_statement 99 = .ok (.ifCond .eq 44, 3) := by decide +kernel
theorem dX11_statement_102 : decode cX11_statement 102 = .ok (.aload_n 0, 1) := by decide +kernel
theorem dX11_statement_103 : decode cX11_statement 103 = .ok (.getfield 202, 3) := by decide +kernel
theorem dX11_statement_106 : decode cX11_statement 106 = .ok (.istore_n 2, 1) := by decide +kernel
theorem dX11_statement_107 : decode cX11_statement 107 = .ok (.aload_n 0, 1) := by decide +kernel
theorem dX11_statement_108 : decode cX11_statement 108 = .ok (.invokevirtual 240, 3) := by decide +kernel
theorem dX11_statement_111 : decode cX11_statement 111 = .ok (.aload_n 0, 1) := by decide +kernel
theorem dX11_statement_112 : decode cX11_statement 112 = .ok (.bipush 15, 2) := by decide +kernel
theorem dX11_statement_114 : decode cX11_statement 114 = .ok (.iconst 0, 1) := by decide +kernel
theorem dX11_statement_115 : decode cX11_statement 115 = .ok (.invokevirtual 211, 3) := by decide +kernel
theorem dX11_statement_118 : decode cX11_statement 118 = .ok (.istore_n 3, 1) := by decide +kernel
theorem dX11_statement_119 : decode cX11_statement 119 = .ok (.aload_n 0, 1) := by decide +kernel
theorem dX11_statement_120 : decode cX11_statement 120 = .ok (.invokevirtual 265, 3) := by decide +kernel
theorem dX11_statement_123 : decode cX11_statement 123 = .ok (.aload_n 0, 1) := by decide +kernel
theorem dX11_statement_124 : decode cX11_statement 124 = .ok (.bipush 14, 2) := by decide +kernel
theorem dX11_statement_126 : decode cX11_statement 126 = .ok (.iload_n 2, 1) := by decide +kernel
theorem dX11_statement_127 : decode cX11_statement 127 = .ok (.invokevirtual 211, 3) := by decide +kernel
theorem dX11_statement_130 : decode cX11_statement 130 = .ok (.pop, 1) := by decide +kernel
theorem dX11_statement_131 : decode cX11_statement 131 = .ok (.aload_n 0, 1) := by decide +kernel
theorem dX11_statement_132 : decode cX11_statement 132 = .ok (.iload_n 3, 1) := by decide +kernel
theorem dX11_statement_133 : decode cX11_statement 133 = .ok (.aload_n 0, 1) := by decide +kernel
theorem dX11_statement_134 : decode cX11_statement 134 = .ok (.getfield 202, 3) := by decide +kernel
theorem dX11_statement_137 : decode cX11_statement 137 = .ok (.invokevirtual 268, 3) := by decide +kernel
theorem dX11_statement_140 : decode cX11_statement 140 = .ok (.goto 17, 3) := by decide +kernel
theorem dX11_statement_143 : decode cX11_statement 143 = .ok (.aload_n 0, 1) := by decide +kernel
theorem dX11_statement_144 : decode cX11_statement 144 = .ok (.dup, 1) := by decide +kernel
theorem dX11_statement_145 : decode cX11_statement 145 = .ok (.getfield 160, 3) := by decide +kernel
theorem dX11_statement_148 : decode cX11_statement 148 = .ok (.iconst 2, 1) := by decide +kernel
theorem dX11_statement_149 : decode cX11_statement 149 = .ok (.iadd, 1) := by decide +kernel
theorem dX11_statement_150 : decode cX11_statement 150 = .ok (.putfield 160, 3) := by decide +kernel
theorem dX11_statement_153 : decode cX11_statement 153 = .ok (.aload_n 0, 1) := by decide +kernel
theorem dX11_statement_154 : decode cX11_statement 154 = .ok (.invokevirtual 271, 3) := by decide +kernel
theorem dX11_statement_157 : decode cX11_statement 157 = .ok (.return_, 1) := by decide +kernel
theorem dX11_ended_0 : decode cX11_ended 0 = .ok (.aload_n 0, 1) := by decide +kernel
theorem dX11_ended_1 : decode cX11_ended 1 = .ok (.getfield 167, 3) := by decide +kernel
theorem dX11_ended_4 : decode cX11_ended 4 = .ok (.ifCond .le 4, 3) := by decide +kernel
theorem dX11_ended_7 : decode cX11_ended 7 = .ok (.return_, 1) := by decide +kernel
theorem dX11_ended_8 : decode cX11_ended 8 = .ok (.aload_n 0, 1) := by decide +kernel
theorem dX11_ended_9 : decode cX11_ended 9 = .ok (.invokevirtual 240, 3) := by decide +kernel
theorem dX11_ended_12 : decode cX11_ended 12 = .ok (.aload_n 0, 1) := by decide +kernel
theorem dX11_ended_13 : decode cX11_ended 13 = .ok (.iload_n 1, 1) := by decide +kernel
theorem dX11_ended_14 : decode cX11_ended 14 = .ok (.iload_n 2, 1) := by decide +kernel
theorem dX11_ended_15 : decode cX11_ended 15 = .ok (.invokevirtual 211, 3) := by decide +kernel
theorem dX11_ended_18 : decode cX11_ended 18 = .ok (.pop, 1) := by decide +kernel
theorem dX11_ended_19 : decode cX11_ended 19 = .ok (.aload_n 0, 1) := by decide +kernel
theorem dX11_ended_20 : decode cX11_ended 20 = .ok (.bipush 59, 2) := by decide +kernel
theorem dX11_ended_22 : decode cX11_ended 22 = .ok (.invokevirtual 198, 3) := by decide +kernel
theorem dX11_ended_25 : decode cX11_ended 25 = .ok (.return_, 1) := by decide +kernel
theorem dX11_branch_0 : decode cX11_branch 0 = .ok (.aload_n 0, 1) := by decide +kernel
theorem dX11_branch_1 : decode cX11_branch 1 = .ok (.invokevirtual 240, 3) := by decide +kernel
theorem dX11_branch_4 : decode cX11_branch 4 = .ok (.aload_n 0, 1) := by decide +kernel
theorem dX11_branch_5 : decode cX11_branch 5 = .ok (.bipush 15, 2) := by decide +kernel
theorem dX11_branch_7 : decode cX11_branch 7 = .ok (.iconst 0, 1) := by decide +kernel
theorem dX11_branch_8 : decode cX11_branch 8 = .ok (.invokevirtual 211, 3) := by decide +kernel
theorem dX11_branch_11 : decode cX11_branch 11 = .ok (.istore_n 1, 1) := by decide +kernel
theorem dX11_branch_12 : decode cX11_branch 12 = .ok (.aload_n 0, 1) := by decide +kernel
theorem dX11_branch_13 : decode cX11_branch 13 = .ok (.invokevirtual 265, 3) := by decide +kernel
theorem dX11_branch_16 : decode cX11_branch 16 = .ok (.aload_n 0, 1) := by decide +kernel
theorem dX11_branch_17 : decode cX11_branch 17 = .ok (.ldc_w 274, 3) := by decide +kernel
theorem dX11_branch_20 : decode cX11_branch 20 = .ok (.invokevirtual 234, 3) := by decide +kernel
theorem dX11_branch_23 : decode cX11_branch 23 = .ok (.ifCond .ne 13, 3) := by decide +kernel
theorem dX11_branch_26 : decode cX11_branch 26 = .ok (.aload_n 0, 1) := by decide +kernel
theorem dX11_branch_27 : decode cX11_branch 27 = .ok (.iload_n 1, 1) := by decide +kernel
theorem dX11_branch_28 : decode cX11_branch 28 = .ok (.aload_n 0, 1) := by decide +kernel
theorem dX11_branch_29 : decode cX11_branch 29 = .ok (.getfield 202, 3) := by decide +kernel
theorem dX11_branch_32 : decode cX11_branch 32 = .ok (.invokevirtual 268, 3) := by decide +kernel
theorem dX11_branch_35 : decode cX11_branch 35 = .ok (.return_, 1) := by decide +kernel
theorem dX11_branch_36 : decode cX11_branch 36 = .ok (.aload_n 0, 1) := by decide +kernel
theorem dX11_branch_37 : decode cX11_branch 37 = .ok (.bipush 14, 2) := by decide +kernel
theorem dX11_branch_39 : decode cX11_branch 39 = .ok (.iconst 0, 1) := by decide +kernel
theorem dX11_branch_40 : decode cX11_branch 40 = .ok (.invokevirtual 211, 3) := by decide +kernel
theorem dX11_branch_43 : decode cX11_branch 43 = .ok (.istore_n 2, 1) := by decide +kernel
theorem dX11_branch_44 : decode cX11_branch 44 = .ok (.aload_n 0, 1) := by decide +kernel
theorem dX11_branch_45 : decode cX11_branch 45 = .ok (.iload_n 1, 1) := by decide +kernel
theorem dX11_branch_46 : decode cX11_branch 46 = .ok (.aload_n 0, 1) := by decide +kernel
theorem dX11_branch_47 : decode cX11_branch 47 = .ok (.getfield 202, 3) := by decide +kernel
theorem dX11_branch_50 : decode cX11_branch 50 = .ok (.invokevirtual 268, 3) := by decide +kernel
theorem dX11_branch_53 : decode cX11_branch 53 = .ok (.aload_n 0, 1) := by decide +kernel
theorem dX11_branch_54 : decode cX11_branch 54 = .ok (.invokevirtual 265, 3) := by decide +kernel
theorem dX11_branch_57 : decode cX11_branch 57 = .ok (.aload_n 0, 1) := by decide +kernel
theorem dX11_branch_58 : decode cX11_branch 58 = .ok (.iload_n 2, 1) := by decide +kernel
theorem dX11_branch_59 : decode cX11_branch 59 = .ok (.aload_n 0, 1) := by decide +kernel
theorem dX11_branch_60 : decode cX11_branch 60 = .ok (.getfield 202, 3) := by decide +kernel
theorem dX11_branch_63 : decode cX11_branch 63 = .ok (.invokevirtual 268, 3) := by decide +kernel
theorem dX11_branch_66 : decode cX11_branch 66 = .ok (.return_, 1) := by decide +kernel
theorem dX11_task_0 : decode cX11_task 0 = .ok (.aload_n 0, 1) := by decide +kernel
theorem dX11_task_1 : decode cX11_task 1 = .ok (.iconst 0, 1) := by decide +kernel
theorem dX11_task_2 : decode cX11_task 2 = .ok (.putfield 151, 3) := by decide +kernel
theorem dX11_task_5 : decode cX11_task 5 = .ok (.aload_n 0, 1) := by decide +kernel
theorem dX11_task_6 : decode cX11_task 6 = .ok (.iload_n 1, 1) := by decide +kernel
theorem dX11_task_7 : decode cX11_task 7 = .ok (.iconst 0, 1) := by decide +kernel
theorem dX11_task_8 : decode cX11_task 8 = .ok (.ldc 224, 2) := by decide +kernel
theorem dX11_task_10 : decode cX11_task 10 = .ok (.invokestatic 276, 3) := by decide +kernel
theorem dX11_task_13 : decode cX11_task 13 = .ok (.ifCond .eq 15, 3) := by decide +kernel
theorem dX11_task_16 : decode cX11_task 16 = .ok (.iload_n 2, 1) := by decide +kernel
theorem dX11_task_17 : decode cX11_task 17 = .ok (.ifCond .lt 11, 3) := by decide +kernel
theorem dX11_task_20 : decode cX11_task 20 = .ok (.iload_n 2, 1) := by decide +kernel
theorem dX11_task_21 : decode cX11_task 21 = .ok (.aload_n 0, 1) := by decide +kernel
theorem dX11_task_22 : decode cX11_task 22 = .ok (.getfield 154, 3) := by decide +kernel
theorem dX11_task_25 : decode cX11_task 25 = .ok (.if_icmp .le 7, 3) := by decide +kernel
theorem dX11_task_28 : decode cX11_task 28 = .ok (.iconst 1, 1) := by decide +kernel
theorem dX11_task_29 : decode cX11_task 29 = .ok (.goto 4, 3) := by decide +kernel
theorem dX11_task_32 : decode cX11_task 32 = .ok (.iconst 0, 1) := by decide +kernel
theorem dX11_task_33 : decode cX11_task 33 = .ok (.iconst 1, 1) := by decide +kernel
theorem dX11_task_34 : decode cX11_task 34 = .ok (.invokevirtual 280, 3) := by decide +kernel
theorem dX11_task_37 : decode cX11_task 37 = .ok (.ifCond .eq 5, 3) := by decide +kernel
theorem dX11_task_40 : decode cX11_task 40 = .ok (.iconst 0, 1) := by decide +kernel
theorem dX11_task_41 : decode cX11_task 41 = .ok (.ireturn, 1) := by decide +kernel
theorem dX11_task_42 : decode cX11_task 42 = .ok (.aload_n 0, 1) := by decide +kernel
theorem dX11_task_43 : decode cX11_task 43 = .ok (.iload_n 2, 1) := by decide +kernel
theorem dX11_task_44 : decode cX11_task 44 = .ok (.putfield 157, 3) := by decide +kernel
theorem dX11_task_47 : decode cX11_task 47 = .ok (.aload_n 0, 1) := by decide +kernel
theorem dX11_task_48 : decode cX11_task 48 = .ok (.iconst 0, 1) := by decide +kernel
theorem dX11_task_49 : decode cX11_task 49 = .ok (.putfield 154, 3) := by decide +kernel
theorem dX11_task_52 : decode cX11_task 52 = .ok (.aload_n 0, 1) := by decide +kernel
theorem dX11_task_53 : decode cX11_task 53 = .ok (.iconst 0, 1) := by decide +kernel
theorem dX11_task_54 : decode cX11_task 54 = .ok (.putfield 167, 3) := by decide +kernel
theorem dX11_task_57 : decode cX11_task 57 = .ok (.aload_n 0, 1) := by decide +kernel
theorem dX11_task_58 : decode cX11_task 58 = .ok (.iconst (-1), 1) := by decide +kernel
theorem dX11_task_59 : decode cX11_task 59 = .ok (.putfield 13, 3) := by decide +kernel
theorem dX11_task_62 : decode cX11_task 62 = .ok (.aload_n 0, 1) := by decide +kernel
theorem dX11_task_63 : decode cX11_task 63 = .ok (.getfield 205, 3) := by decide +kernel
theorem dX11_task_66 : decode cX11_task 66 = .ok (.bipush 6, 2) := by decide +kernel
theorem dX11_task_68 : decode cX11_task 68 = .ok (.if_icmp .ne 5, 3) := by decide +kernel
theorem dX11_task_71 : decode cX11_task 71 = .ok (.iconst (-1), 1) := by decide +kernel
theorem dX11_task_72 : decode cX11_task 72 = .ok (.ireturn, 1) := by decide +kernel
theorem dX11_task_73 : decode cX11_task 73 = .ok (.aload_n 0, 1) := by decide +kernel
theorem dX11_task_74 : decode cX11_task 74 = .ok (.iconst 0, 1) := by decide +kernel
theorem dX11_task_75 : decode cX11_task 75 = .ok (.putfield 160, 3) := by decide +kernel
theorem dX11_task_78 : decode cX11_task 78 = .ok (.aload_n 0, 1) := by decide +kernel
theorem dX11_task_79 : decode cX11_task 79 = .ok (.iconst 0, 1) := by decide +kernel
theorem dX11_task_80 : decode cX11_task 80 = .ok (.putfield 195, 3) := by decide +kernel
theorem dX11_task_83 : decode cX11_task 83 = .ok (.aload_n 0, 1) := by decide +kernel
theorem dX11_task_84 : decode cX11_task 84 = .ok (.iconst 0, 1) := by decide +kernel
theorem dX11_task_85 : decode cX11_task 85 = .ok (.putfield 202, 3) := by decide +kernel
theorem dX11_task_88 : decode cX11_task 88 = .ok (.aload_n 0, 1) := by decide +kernel
theorem dX11_task_89 : decode cX11_task 89 = .ok (.invokevirtual 252, 3) := by decide +kernel
theorem dX11_task_92 : decode cX11_task 92 = .ok (.aload_n 0, 1) := by decide +kernel
theorem dX11_task_93 : decode cX11_task 93 = .ok (.getfield 167, 3) := by decide +kernel
theorem dX11_task_96 : decode cX11_task 96 = .ok (.ifCond .ne 23, 3) := by decide +kernel
theorem dX11_task_99 : decode cX11_task 99 = .ok (.aload_n 0, 1) := by decide +kernel
theorem dX11_task_100 : decode cX11_task 100 = .ok (.getfield 160, 3) := by decide +kernel
theorem dX11_task_103 : decode cX11_task 103 = .ok (.aload_n 0, 1) := by decide +kernel
theorem dX11_task_104 : decode cX11_task 104 = .ok (.getfield 157, 3) := by decide +kernel
theorem dX11_task_107 : decode cX11_task 107 = .ok (.if_icmp .ge 12, 3) := by decide +kernel
theorem dX11_task_110 : decode cX11_task 110 = .ok (.aload_n 0, 1) := by decide +kernel
theorem dX11_task_111 : decode cX11_task 111 = .ok (.iconst 1, 1) := by decide +kernel
theorem dX11_task_112 : decode cX11_task 112 = .ok (.aload_n 0, 1) := by decide +kernel
theorem dX11_task_113 : decode cX11_task 113 = .ok (.getfield 160, 3) := by decide +kernel
theorem dX11_task_116 : decode cX11_task 116 = .ok (.invokevirtual 191, 3) := by decide +kernel
theorem dX11_task_119 : decode cX11_task 119 = .ok (.aload_n 0, 1) := by decide +kernel
theorem dX11_task_120 : decode cX11_task 120 = .ok (.iconst 0, 1) := by decide +kernel
theorem dX11_task_121 : decode cX11_task 121 = .ok (.iconst 0, 1) := by decide +kernel
theorem dX11_task_122 : decode cX11_task 122 = .ok (.invokevirtual 211, 3) := by decide +kernel
theorem dX11_task_125 : decode cX11_task 125 = .ok (.pop, 1) := by decide +kernel
theorem dX11_task_126 : decode cX11_task 126 = .ok (.aload_n 0, 1) := by decide +kernel
theorem dX11_task_127 : decode cX11_task 127 = .ok (.getfield 167, 3) := by decide +kernel
theorem dX11_task_130 : decode cX11_task 130 = .ok (.ifCond .ne 22, 3) := by decide +kernel
theorem dX11_task_133 : decode cX11_task 133 = .ok (.aload_n 0, 1) := by decide +kernel
theorem dX11_task_134 : decode cX11_task 134 = .ok (.getfield 202, 3) := by decide +kernel
theorem dX11_task_137 : decode cX11_task 137 = .ok (.sipush 200, 3) := by decide +kernel
theorem dX11_task_140 : decode cX11_task 140 = .ok (.if_icmp .le 12, 3) := by decide +kernel
theorem dX11_task_143 : decode cX11_task 143 = .ok (.aload_n 0, 1) := by decide +kernel
theorem dX11_task_144 : decode cX11_task 144 = .ok (.iconst 4, 1) := by decide +kernel
theorem dX11_task_145 : decode cX11_task 145 = .ok (.aload_n 0, 1) := by decide +kernel
theorem dX11_task_146 : decode cX11_task 146 = .ok (.getfield 157, 3) := by decide +kernel
theorem dX11_task_149 : decode cX11_task 149 = .ok (.invokevirtual 191, 3) := by decide +kernel
theorem dX11_task_152 : decode cX11_task 152 = .ok (.aload_n 0, 1) := by decide +kernel
theorem dX11_task_153 : decode cX11_task 153 = .ok (.getfield 167, 3) := by decide +kernel
theorem dX11_task_156 : decode cX11_task 156 = .ok (.ifCond .le 11, 3) := by decide +kernel
theorem dX11_task_159 : decode cX11_task 159 = .ok (.aload_n 0, 1) := by decide +kernel
theorem dX11_task_160 : decode cX11_task 160 = .ok (.getfield 167, 3) := by decide +kernel
theorem dX11_task_163 : decode cX11_task 163 = .ok (.bipush 10, 2) := by decide +kernel
theorem dX11_task_165 : decode cX11_task 165 = .ok (.isub, 1) := by decide +kernel
theorem dX11_task_166 : decode cX11_task 166 = .ok (.ireturn, 1) := by decide +kernel
theorem dX11_task_167 : decode cX11_task 167 = .ok (.aload_n 0, 1) := by decide +kernel
theorem dX11_task_168 : decode cX11_task 168 = .ok (.getfield 24, 3) := by decide +kernel
theorem dX11_task_171 : decode cX11_task 171 = .ok (.aload_n 0, 1) := by decide +kernel
theorem dX11_task_172 : decode cX11_task 172 = .ok (.getfield 205, 3) := by decide +kernel
theorem dX11_task_175 : decode cX11_task 175 = .ok (.aload_n 0, 1) := by decide +kernel
theorem dX11_task_176 : decode cX11_task 176 = .ok (.getfield 202, 3) := by decide +kernel
theorem dX11_task_179 : decode cX11_task 179 = .ok (.iastore, 1) := by decide +kernel
theorem dX11_task_180 : decode cX11_task 180 = .ok (.aload_n 0, 1) := by decide +kernel
theorem dX11_task_181 : decode cX11_task 181 = .ok (.getfield 20, 3) := by decide +kernel
theorem dX11_task_184 : decode cX11_task 184 = .ok (.aload_n 0, 1) := by decide +kernel
theorem dX11_task_185 : decode cX11_task 185 = .ok (.getfield 205, 3) := by decide +kernel
theorem dX11_task_188 : decode cX11_task 188 = .ok (.aload_n 0, 1) := by decide +kernel
theorem dX11_task_189 : decode cX11_task 189 = .ok (.getfield 157, 3) := by decide +kernel
theorem dX11_task_192 : decode cX11_task 192 = .ok (.iastore, 1) := by decide +kernel
theorem dX11_task_193 : decode cX11_task 193 = .ok (.iconst 0, 1) := by decide +kernel
theorem dX11_task_194 : decode cX11_task 194 = .ok (.istore_n 3, 1) := by decide +kernel
theorem dX11_task_195 : decode cX11_task 195 = .ok (.iload_n 3, 1) := by decide +kernel
theorem dX11_task_196 : decode cX11_task 196 = .ok (.aload_n 0, 1) := by decide +kernel
theorem dX11_task_197 : decode cX11_task 197 = .ok (.getfield 157, 3) := by decide +kernel
theorem dX11_task_200 : decode cX11_task 200 = .ok (.if_icmp .ge 30, 3) := by decide +kernel
theorem dX11_task_203 : decode cX11_task 203 = .ok (.aload_n 0, 1) := by decide +kernel
theorem dX11_task_204 : decode cX11_task 204 = .ok (.getfield 17, 3) := by decide +kernel
theorem dX11_task_207 : decode cX11_task 207 = .ok (.sipush 400, 3) := by decide +kernel
theorem dX11_task_210 : decode cX11_task 210 = .ok (.aload_n 0, 1) := by decide +kernel
theorem dX11_task_211 : decode cX11_task 211 = .ok (.getfield 205, 3) := by decide +kernel
theorem dX11_task_214 : decode cX11_task 214 = .ok (.imul, 1) := by decide +kernel
theorem dX11_task_215 : decode cX11_task 215 = .ok (.iload_n 3, 1) := by decide +kernel
theorem dX11_task_216 : decode cX11_task 216 = .ok (.iadd, 1) := by decide +kernel
theorem dX11_task_217 : decode cX11_task 217 = .ok (.aload_n 0, 1) := by decide +kernel
theorem dX11_task_218 : decode cX11_task 218 = .ok (.getfield 9, 3) := by decide +kernel
theorem dX11_task_221 : decode cX11_task 221 = .ok (.iload_n 3, 1) := by decide +kernel
theorem dX11_task_222 : decode cX11_task 222 = .ok (.baload, 1) := by decide +kernel
theorem dX11_task_223 : decode cX11_task 223 = .ok (.bastore, 1) := by decide +kernel
theorem dX11_task_224 : decode cX11_task 224 = .ok (.iinc 3 1, 3) := by decide +kernel
theorem dX11_task_227 : decode cX11_task 227 = .ok (.goto (-32), 3) := by decide +kernel
theorem dX11_task_230 : decode cX11_task 230 = .ok (.aload_n 0, 1) := by decide +kernel
theorem dX11_task_231 : decode cX11_task 231 = .ok (.getfield 36, 3) := by decide +kernel
theorem dX11_task_234 : decode cX11_task 234 = .ok (.aload_n 0, 1) := by decide +kernel
theorem dX11_task_235 : decode cX11_task 235 = .ok (.getfield 205, 3) := by decide +kernel
theorem dX11_task_238 : decode cX11_task 238 = .ok (.iload_n 1, 1) := by decide +kernel
theorem dX11_task_239 : decode cX11_task 239 = .ok (.iastore, 1) := by decide +kernel
theorem dX11_task_240 : decode cX11_task 240 = .ok (.aload_n 0, 1) := by decide +kernel
theorem dX11_task_241 : decode cX11_task 241 = .ok (.dup, 1) := by decide +kernel
theorem dX11_task_242 : decode cX11_task 242 = .ok (.getfield 205, 3) := by decide +kernel
theorem dX11_task_245 : decode cX11_task 245 = .ok (.iconst 1, 1) := by decide +kernel
theorem dX11_task_246 : decode cX11_task 246 = .ok (.iadd, 1) := by decide +kernel
theorem dX11_task_247 : decode cX11_task 247 = .ok (.putfield 205, 3) := by decide +kernel
theorem dX11_task_250 : decode cX11_task 250 = .ok (.aload_n 0, 1) := by decide +kernel
theorem dX11_task_251 : decode cX11_task 251 = .ok (.getfield 205, 3) := by decide +kernel
theorem dX11_task_254 : decode cX11_task 254 = .ok (.iconst 1, 1) := by decide +kernel
theorem dX11_task_255 : decode cX11_task 255 = .ok (.isub, 1) := by decide +kernel
theorem dX11_task_256 : decode cX11_task 256 = .ok (.ireturn, 1) := by decide +kernel
theorem dX11_fault_0 : decode cX11_fault 0 = .ok (.aload_n 0, 1) := by decide +kernel
theorem dX11_fault_1 : decode cX11_fault 1 = .ok (.iconst 0, 1) := by decide +kernel
theorem dX11_fault_2 : decode cX11_fault 2 = .ok (.putfield 151, 3) := by decide +kernel
theorem dX11_fault_5 : decode cX11_fault 5 = .ok (.aload_n 0, 1) := by decide +kernel
theorem dX11_fault_6 : decode cX11_fault 6 = .ok (.getfield 13, 3) := by decide +kernel
theorem dX11_fault_9 : decode cX11_fault 9 = .ok (.ireturn, 1) := by decide +kernel
theorem dX11_isTask_0 : decode cX11_isTask 0 = .ok (.aload_n 0, 1) := by decide +kernel
theorem dX11_isTask_1 : decode cX11_isTask 1 = .ok (.iload_n 1, 1) := by decide +kernel
theorem dX11_isTask_2 : decode cX11_isTask 2 = .ok (.iconst 0, 1) := by decide +kernel
theorem dX11_isTask_3 : decode cX11_isTask 3 = .ok (.aload_n 0, 1) := by decide +kernel
theorem dX11_isTask_4 : decode cX11_isTask 4 = .ok (.getfield 205, 3) := by decide +kernel
theorem dX11_isTask_7 : decode cX11_isTask 7 = .ok (.iconst 1, 1) := by decide +kernel
theorem dX11_isTask_8 : decode cX11_isTask 8 = .ok (.isub, 1) := by decide +kernel
theorem dX11_isTask_9 : decode cX11_isTask 9 = .ok (.invokestatic 276, 3) := by decide +kernel
theorem dX11_isTask_12 : decode cX11_isTask 12 = .ok (.ifCond .eq 7, 3) := by decide +kernel
theorem dX11_isTask_15 : decode cX11_isTask 15 = .ok (.iconst 0, 1) := by decide +kernel
theorem dX11_isTask_16 : decode cX11_isTask 16 = .ok (.goto 4, 3) := by decide +kernel
theorem dX11_isTask_19 : decode cX11_isTask 19 = .ok (.iconst 1, 1) := by decide +kernel
theorem dX11_isTask_20 : decode cX11_isTask 20 = .ok (.putfield 151, 3) := by decide +kernel
theorem dX11_isTask_23 : decode cX11_isTask 23 = .ok (.aload_n 0, 1) := by decide +kernel
theorem dX11_isTask_24 : decode cX11_isTask 24 = .ok (.getfield 151, 3) := by decide +kernel
theorem dX11_isTask_27 : decode cX11_isTask 27 = .ok (.ifCond .ne 7, 3) := by decide +kernel
theorem dX11_isTask_30 : decode cX11_isTask 30 = .ok (.iconst 1, 1) := by decide +kernel
theorem dX11_isTask_31 : decode cX11_isTask 31 = .ok (.goto 4, 3) := by decide +kernel
theorem dX11_isTask_34 : decode cX11_isTask 34 = .ok (.iconst 0, 1) := by decide +kernel
theorem dX11_isTask_35 : decode cX11_isTask 35 = .ok (.ireturn, 1) := by decide +kernel
theorem dX11_code_0 : decode cX11_code 0 = .ok (.aload_n 0, 1) := by decide +kernel
theorem dX11_code_1 : decode cX11_code 1 = .ok (.iload_n 1, 1) := by decide +kernel
theorem dX11_code_2 : decode cX11_code 2 = .ok (.invokevirtual 284, 3) := by decide +kernel
theorem dX11_code_5 : decode cX11_code 5 = .ok (.ifCond .eq 25, 3) := by decide +kernel
theorem dX11_code_8 : decode cX11_code 8 = .ok (.aload_n 0, 1) := by decide +kernel
theorem dX11_code_9 : decode cX11_code 9 = .ok (.iload_n 3, 1) := by decide +kernel
theorem dX11_code_10 : decode cX11_code 10 = .ok (.iconst 0, 1) := by decide +kernel
theorem dX11_code_11 : decode cX11_code 11 = .ok (.iconst 1, 1) := by decide +kernel
theorem dX11_code_12 : decode cX11_code 12 = .ok (.invokestatic 276, 3) := by decide +kernel
theorem dX11_code_15 : decode cX11_code 15 = .ok (.ifCond .ne 7, 3) := by decide +kernel
theorem dX11_code_18 : decode cX11_code 18 = .ok (.iconst 1, 1) := by decide +kernel
theorem dX11_code_19 : decode cX11_code 19 = .ok (.goto 4, 3) := by decide +kernel
theorem dX11_code_22 : decode cX11_code 22 = .ok (.iconst 0, 1) := by decide +kernel
theorem dX11_code_23 : decode cX11_code 23 = .ok (.iconst 2, 1) := by decide +kernel
theorem dX11_code_24 : decode cX11_code 24 = .ok (.invokevirtual 280, 3) := by decide +kernel
theorem dX11_code_27 : decode cX11_code 27 = .ok (.ifCond .eq 5, 3) := by decide +kernel
theorem dX11_code_30 : decode cX11_code 30 = .ok (.iconst 0, 1) := by decide +kernel
theorem dX11_code_31 : decode cX11_code 31 = .ok (.ireturn, 1) := by decide +kernel
theorem dX11_code_32 : decode cX11_code 32 = .ok (.iload_n 2, 1) := by decide +kernel
theorem dX11_code_33 : decode cX11_code 33 = .ok (.iconst 0, 1) := by decide +kernel
theorem dX11_code_34 : decode cX11_code 34 = .ok (.aload_n 0, 1) := by decide +kernel
theorem dX11_code_35 : decode cX11_code 35 = .ok (.getfield 24, 3) := by decide +kernel
theorem dX11_code_38 : decode cX11_code 38 = .ok (.iload_n 1, 1) := by decide +kernel
theorem dX11_code_39 : decode cX11_code 39 = .ok (.iaload, 1) := by decide +kernel
theorem dX11_code_40 : decode cX11_code 40 = .ok (.iconst 1, 1) := by decide +kernel
theorem dX11_code_41 : decode cX11_code 41 = .ok (.isub, 1) := by decide +kernel
theorem dX11_code_42 : decode cX11_code 42 = .ok (.invokestatic 276, 3) := by decide +kernel
theorem dX11_code_45 : decode cX11_code 45 = .ok (.ifCond .ne 5, 3) := by decide +kernel
theorem dX11_code_48 : decode cX11_code 48 = .ok (.iconst (-1), 1) := by decide +kernel
theorem dX11_code_49 : decode cX11_code 49 = .ok (.ireturn, 1) := by decide +kernel
theorem dX11_code_50 : decode cX11_code 50 = .ok (.iload_n 3, 1) := by decide +kernel
theorem dX11_code_51 : decode cX11_code 51 = .ok (.ifCond .ne 18, 3) := by decide +kernel
theorem dX11_code_54 : decode cX11_code 54 = .ok (.aload_n 0, 1) := by decide +kernel
theorem dX11_code_55 : decode cX11_code 55 = .ok (.getfield 27, 3) := by decide +kernel
theorem dX11_code_58 : decode cX11_code 58 = .ok (.sipush 500, 3) := by decide +kernel
theorem dX11_code_61 : decode cX11_code 61 = .ok (.iload_n 1, 1) := by decide +kernel
theorem dX11_code_62 : decode cX11_code 62 = .ok (.imul, 1) := by decide +kernel
theorem dX11_code_63 : decode cX11_code 63 = .ok (.iload_n 2, 1) := by decide +kernel
theorem dX11_code_64 : decode cX11_code 64 = .ok (.iadd, 1) := by decide +kernel
theorem dX11_code_65 : decode cX11_code 65 = .ok (.iaload, 1) := by decide +kernel
theorem dX11_code_66 : decode cX11_code 66 = .ok (.goto 15, 3) := by decide +kernel
theorem dX11_code_69 : decode cX11_code 69 = .ok (.aload_n 0, 1) := by decide +kernel
theorem dX11_code_70 : decode cX11_code 70 = .ok (.getfield 30, 3) := by decide +kernel
theorem dX11_code_73 : decode cX11_code 73 = .ok (.sipush 500, 3) := by decide +kernel
theorem dX11_code_76 : decode cX11_code 76 = .ok (.iload_n 1, 1) := by decide +kernel
theorem dX11_code_77 : decode cX11_code 77 = .ok (.imul, 1) := by decide +kernel
theorem dX11_code_78 : decode cX11_code 78 = .ok (.iload_n 2, 1) := by decide +kernel
theorem dX11_code_79 : decode cX11_code 79 = .ok (.iadd, 1) := by decide +kernel
theorem dX11_code_80 : decode cX11_code 80 = .ok (.iaload, 1) := by decide +kernel
theorem dX11_code_81 : decode cX11_code 81 = .ok (.ireturn, 1) := by decide +kernel
theorem dX11_memory_0 : decode cX11_memory 0 = .ok (.aload_n 0, 1) := by decide +kernel
theorem dX11_memory_1 : decode cX11_memory 1 = .ok (.iload_n 1, 1) := by decide +kernel
theorem dX11_memory_2 : decode cX11_memory 2 = .ok (.invokevirtual 284, 3) := by decide +kernel
theorem dX11_memory_5 : decode cX11_memory 5 = .ok (.ifCond .eq 26, 3) := by decide +kernel
theorem dX11_memory_8 : decode cX11_memory 8 = .ok (.aload_n 0, 1) := by decide +kernel
theorem dX11_memory_9 : decode cX11_memory 9 = .ok (.iload_n 2, 1) := by decide +kernel
theorem dX11_memory_10 : decode cX11_memory 10 = .ok (.iconst 0, 1) := by decide +kernel
theorem dX11_memory_11 : decode cX11_memory 11 = .ok (.bipush 63, 2) := by decide +kernel
theorem dX11_memory_13 : decode cX11_memory 13 = .ok (.invokestatic 276, 3) := by decide +kernel
theorem dX11_memory_16 : decode cX11_memory 16 = .ok (.ifCond .ne 7, 3) := by decide +kernel
theorem dX11_memory_19 : decode cX11_memory 19 = .ok (.iconst 1, 1) := by decide +kernel
theorem dX11_memory_20 : decode cX11_memory 20 = .ok (.goto 4, 3) := by decide +kernel
theorem dX11_memory_23 : decode cX11_memory 23 = .ok (.iconst 0, 1) := by decide +kernel
theorem dX11_memory_24 : decode cX11_memory 24 = .ok (.iconst 2, 1) := by decide +kernel
theorem dX11_memory_25 : decode cX11_memory 25 = .ok (.invokevirtual 280, 3) := by decide +kernel
theorem dX11_memory_28 : decode cX11_memory 28 = .ok (.ifCond .eq 5, 3) := by decide +kernel
theorem dX11_memory_31 : decode cX11_memory 31 = .ok (.iconst 0, 1) := by decide +kernel
theorem dX11_memory_32 : decode cX11_memory 32 = .ok (.ireturn, 1) := by decide +kernel
theorem dX11_memory_33 : decode cX11_memory 33 = .ok (.aload_n 0, 1) := by decide +kernel
theorem dX11_memory_34 : decode cX11_memory 34 = .ok (.getfield 51, 3) := by decide +kernel
theorem dX11_memory_37 : decode cX11_memory 37 = .ok (.iload_n 1, 1) := by decide +kernel
theorem dX11_memory_38 : decode cX11_memory 38 = .ok (.baload, 1) := by decide +kernel
theorem dX11_memory_39 : decode cX11_memory 39 = .ok (.ifCond .eq 5, 3) := by decide +kernel
theorem dX11_memory_42 : decode cX11_memory 42 = .ok (.iconst (-1), 1) := by decide +kernel
theorem dX11_memory_43 : decode cX11_memory 43 = .ok (.ireturn, 1) := by decide +kernel
theorem dX11_memory_44 : decode cX11_memory 44 = .ok (.aload_n 0, 1) := by decide +kernel
theorem dX11_memory_45 : decode cX11_memory 45 = .ok (.getfield 33, 3) := by decide +kernel
theorem dX11_memory_48 : decode cX11_memory 48 = .ok (.bipush 64, 2) := by decide +kernel
theorem dX11_memory_50 : decode cX11_memory 50 = .ok (.iload_n 1, 1) := by decide +kernel
theorem dX11_memory_51 : decode cX11_memory 51 = .ok (.imul, 1) := by decide +kernel
theorem dX11_memory_52 : decode cX11_memory 52 = .ok (.iload_n 2, 1) := by decide +kernel
theorem dX11_memory_53 : decode cX11_memory 53 = .ok (.iadd, 1) := by decide +kernel
theorem dX11_memory_54 : decode cX11_memory 54 = .ok (.iload_n 3, 1) := by decide +kernel
theorem dX11_memory_55 : decode cX11_memory 55 = .ok (.iastore, 1) := by decide +kernel
theorem dX11_memory_56 : decode cX11_memory 56 = .ok (.iconst 1, 1) := by decide +kernel
theorem dX11_memory_57 : decode cX11_memory 57 = .ok (.ireturn, 1) := by decide +kernel
theorem dX11_begins_0 : decode cX11_begins 0 = .ok (.iconst 0, 1) := by decide +kernel
theorem dX11_begins_1 : decode cX11_begins 1 = .ok (.istore 4, 2) := by decide +kernel
theorem dX11_begins_3 : decode cX11_begins 3 = .ok (.iload 4, 2) := by decide +kernel
theorem dX11_begins_5 : decode cX11_begins 5 = .ok (.sipush 128, 3) := by decide +kernel
theorem dX11_begins_8 : decode cX11_begins 8 = .ok (.if_icmp .ge 61, 3) := by decide +kernel
theorem dX11_begins_11 : decode cX11_begins 11 = .ok (.aload_n 0, 1) := by decide +kernel
theorem dX11_begins_12 : decode cX11_begins 12 = .ok (.getfield 42, 3) := by decide +kernel
theorem dX11_begins_15 : decode cX11_begins 15 = .ok (.iload 4, 2) := by decide +kernel
theorem dX11_begins_17 : decode cX11_begins 17 = .ok (.iload 4, 2) := by decide +kernel
theorem dX11_begins_19 : decode cX11_begins 19 = .ok (.bipush 64, 2) := by decide +kernel
theorem dX11_begins_21 : decode cX11_begins 21 = .ok (.if_icmp .ge 7, 3) := by decide +kernel
theorem dX11_begins_24 : decode cX11_begins 24 = .ok (.iconst 0, 1) := by decide +kernel
theorem dX11_begins_25 : decode cX11_begins 25 = .ok (.goto 37, 3) := by decide +kernel
theorem dX11_begins_28 : decode cX11_begins 28 = .ok (.iload_n 2, 1) := by decide +kernel
theorem dX11_begins_29 : decode cX11_begins 29 = .ok (.ifCond .ne 21, 3) := by decide +kernel
theorem dX11_begins_32 : decode cX11_begins 32 = .ok (.aload_n 0, 1) := by decide +kernel
theorem dX11_begins_33 : decode cX11_begins 33 = .ok (.getfield 33, 3) := by decide +kernel
theorem dX11_begins_36 : decode cX11_begins 36 = .ok (.bipush 64, 2) := by decide +kernel
theorem dX11_begins_38 : decode cX11_begins 38 = .ok (.iload_n 1, 1) := by decide +kernel
theorem dX11_begins_39 : decode cX11_begins 39 = .ok (.imul, 1) := by decide +kernel
theorem dX11_begins_40 : decode cX11_begins 40 = .ok (.iload 4, 2) := by decide +kernel
theorem dX11_begins_42 : decode cX11_begins 42 = .ok (.iadd, 1) := by decide +kernel
theorem dX11_begins_43 : decode cX11_begins 43 = .ok (.bipush 64, 2) := by decide +kernel
theorem dX11_begins_45 : decode cX11_begins 45 = .ok (.isub, 1) := by decide +kernel
theorem dX11_begins_46 : decode cX11_begins 46 = .ok (.iaload, 1) := by decide +kernel
theorem dX11_begins_47 : decode cX11_begins 47 = .ok (.goto 15, 3) := by decide +kernel
theorem dX11_begins_50 : decode cX11_begins 50 = .ok (.aload_n 0, 1) := by decide +kernel
theorem dX11_begins_51 : decode cX11_begins 51 = .ok (.iload_n 1, 1) := by decide +kernel
theorem dX11_begins_52 : decode cX11_begins 52 = .ok (.iload_n 2, 1) := by decide +kernel
theorem dX11_begins_53 : decode cX11_begins 53 = .ok (.iload_n 3, 1) := by decide +kernel
theorem dX11_begins_54 : decode cX11_begins 54 = .ok (.iload 4, 2) := by decide +kernel
theorem dX11_begins_56 : decode cX11_begins 56 = .ok (.bipush 64, 2) := by decide +kernel
theorem dX11_begins_58 : decode cX11_begins 58 = .ok (.isub, 1) := by decide +kernel
theorem dX11_begins_59 : decode cX11_begins 59 = .ok (.invokevirtual 287, 3) := by decide +kernel
theorem dX11_begins_62 : decode cX11_begins 62 = .ok (.iastore, 1) := by decide +kernel
theorem dX11_begins_63 : decode cX11_begins 63 = .ok (.iinc 4 1, 3) := by decide +kernel
theorem dX11_begins_66 : decode cX11_begins 66 = .ok (.goto (-63), 3) := by decide +kernel
theorem dX11_begins_69 : decode cX11_begins 69 = .ok (.iconst 0, 1) := by decide +kernel
theorem dX11_begins_70 : decode cX11_begins 70 = .ok (.istore 4, 2) := by decide +kernel
theorem dX11_begins_72 : decode cX11_begins 72 = .ok (.iload 4, 2) := by decide +kernel
theorem dX11_begins_74 : decode cX11_begins 74 = .ok (.bipush 10, 2) := by decide +kernel
theorem dX11_begins_76 : decode cX11_begins 76 = .ok (.if_icmp .ge 17, 3) := by decide +kernel
theorem dX11_begins_79 : decode cX11_begins 79 = .ok (.aload_n 0, 1) := by decide +kernel
theorem dX11_begins_80 : decode cX11_begins 80 = .ok (.getfield 45, 3) := by decide +kernel
theorem dX11_begins_83 : decode cX11_begins 83 = .ok (.iload 4, 2) := by decide +kernel
theorem dX11_begins_85 : decode cX11_begins 85 = .ok (.iconst 0, 1) := by decide +kernel
theorem dX11_begins_86 : decode cX11_begins 86 = .ok (.iastore, 1) := by decide +kernel
theorem dX11_begins_87 : decode cX11_begins 87 = .ok (.iinc 4 1, 3) := by decide +kernel
theorem dX11_begins_90 : decode cX11_begins 90 = .ok (.goto (-18), 3) := by decide +kernel
theorem dX11_begins_93 : decode cX11_begins 93 = .ok (.return_, 1) := by decide +kernel
theorem dX11_lays_0 : decode cX11_lays 0 = .ok (.aload_n 0, 1) := by decide +kernel
theorem dX11_lays_1 : decode cX11_lays 1 = .ok (.getfield 42, 3) := by decide +kernel
theorem dX11_lays_4 : decode cX11_lays 4 = .ok (.bipush 32, 2) := by decide +kernel
theorem dX11_lays_6 : decode cX11_lays 6 = .ok (.aload_n 0, 1) := by decide +kernel
theorem dX11_lays_7 : decode cX11_lays 7 = .ok (.getfield 42, 3) := by decide +kernel
theorem dX11_lays_10 : decode cX11_lays 10 = .ok (.iconst 1, 1) := by decide +kernel
theorem dX11_lays_11 : decode cX11_lays 11 = .ok (.iaload, 1) := by decide +kernel
theorem dX11_lays_12 : decode cX11_lays 12 = .ok (.iadd, 1) := by decide +kernel
theorem dX11_lays_13 : decode cX11_lays 13 = .ok (.iload_n 1, 1) := by decide +kernel
theorem dX11_lays_14 : decode cX11_lays 14 = .ok (.iastore, 1) := by decide +kernel
theorem dX11_lays_15 : decode cX11_lays 15 = .ok (.aload_n 0, 1) := by decide +kernel
theorem dX11_lays_16 : decode cX11_lays 16 = .ok (.getfield 42, 3) := by decide +kernel
theorem dX11_lays_19 : decode cX11_lays 19 = .ok (.iconst 1, 1) := by decide +kernel
theorem dX11_lays_20 : decode cX11_lays 20 = .ok (.dup2, 1) := by decide +kernel
theorem dX11_lays_21 : decode cX11_lays 21 = .ok (.iaload, 1) := by decide +kernel
theorem dX11_lays_22 : decode cX11_lays 22 = .ok (.iconst 1, 1) := by decide +kernel
theorem dX11_lays_23 : decode cX11_lays 23 = .ok (.iadd, 1) := by decide +kernel
theorem dX11_lays_24 : decode cX11_lays 24 = .ok (.iastore, 1) := by decide +kernel
theorem dX11_lays_25 : decode cX11_lays 25 = .ok (.return_, 1) := by decide +kernel
theorem dX11_takes_0 : decode cX11_takes 0 = .ok (.aload_n 0, 1) := by decide +kernel
theorem dX11_takes_1 : decode cX11_takes 1 = .ok (.getfield 42, 3) := by decide +kernel
theorem dX11_takes_4 : decode cX11_takes 4 = .ok (.iconst 1, 1) := by decide +kernel
theorem dX11_takes_5 : decode cX11_takes 5 = .ok (.dup2, 1) := by decide +kernel
theorem dX11_takes_6 : decode cX11_takes 6 = .ok (.iaload, 1) := by decide +kernel
theorem dX11_takes_7 : decode cX11_takes 7 = .ok (.iconst 1, 1) := by decide +kernel
theorem dX11_takes_8 : decode cX11_takes 8 = .ok (.isub, 1) := by decide +kernel
theorem dX11_takes_9 : decode cX11_takes 9 = .ok (.iastore, 1) := by decide +kernel
theorem dX11_takes_10 : decode cX11_takes 10 = .ok (.aload_n 0, 1) := by decide +kernel
theorem dX11_takes_11 : decode cX11_takes 11 = .ok (.getfield 42, 3) := by decide +kernel
theorem dX11_takes_14 : decode cX11_takes 14 = .ok (.bipush 32, 2) := by decide +kernel
theorem dX11_takes_16 : decode cX11_takes 16 = .ok (.aload_n 0, 1) := by decide +kernel
theorem dX11_takes_17 : decode cX11_takes 17 = .ok (.getfield 42, 3) := by decide +kernel
theorem dX11_takes_20 : decode cX11_takes 20 = .ok (.iconst 1, 1) := by decide +kernel
theorem dX11_takes_21 : decode cX11_takes 21 = .ok (.iaload, 1) := by decide +kernel
theorem dX11_takes_22 : decode cX11_takes 22 = .ok (.iadd, 1) := by decide +kernel
theorem dX11_takes_23 : decode cX11_takes 23 = .ok (.iaload, 1) := by decide +kernel
theorem dX11_takes_24 : decode cX11_takes 24 = .ok (.istore_n 1, 1) := by decide +kernel
theorem dX11_takes_25 : decode cX11_takes 25 = .ok (.aload_n 0, 1) := by decide +kernel
theorem dX11_takes_26 : decode cX11_takes 26 = .ok (.getfield 42, 3) := by decide +kernel
theorem dX11_takes_29 : decode cX11_takes 29 = .ok (.bipush 32, 2) := by decide +kernel
theorem dX11_takes_31 : decode cX11_takes 31 = .ok (.aload_n 0, 1) := by decide +kernel
theorem dX11_takes_32 : decode cX11_takes 32 = .ok (.getfield 42, 3) := by decide +kernel
theorem dX11_takes_35 : decode cX11_takes 35 = .ok (.iconst 1, 1) := by decide +kernel
theorem dX11_takes_36 : decode cX11_takes 36 = .ok (.iaload, 1) := by decide +kernel
theorem dX11_takes_37 : decode cX11_takes 37 = .ok (.iadd, 1) := by decide +kernel
theorem dX11_takes_38 : decode cX11_takes 38 = .ok (.iconst 0, 1) := by decide +kernel
theorem dX11_takes_39 : decode cX11_takes 39 = .ok (.iastore, 1) := by decide +kernel
theorem dX11_takes_40 : decode cX11_takes 40 = .ok (.iload_n 1, 1) := by decide +kernel
theorem dX11_takes_41 : decode cX11_takes 41 = .ok (.ireturn, 1) := by decide +kernel
theorem dX11_worked_0 : decode cX11_worked 0 = .ok (.iload_n 0, 1) := by decide +kernel
theorem dX11_worked_1 : decode cX11_worked 1 = .ok (.bipush 6, 2) := by decide +kernel
theorem dX11_worked_3 : decode cX11_worked 3 = .ok (.isub, 1) := by decide +kernel
theorem dX11_worked_4 : decode cX11_worked 4 = .ok (.tableswitch 102 0 6 #[44, 48, 52, 56, 68, 80, 91], 44) := by decide +kernel
theorem dX11_worked_48 : decode cX11_worked 48 = .ok (.iload_n 1, 1) := by decide +kernel
theorem dX11_worked_49 : decode cX11_worked 49 = .ok (.iload_n 2, 1) := by decide +kernel
theorem dX11_worked_50 : decode cX11_worked 50 = .ok (.iadd, 1) := by decide +kernel
theorem dX11_worked_51 : decode cX11_worked 51 = .ok (.ireturn, 1) := by decide +kernel
theorem dX11_worked_52 : decode cX11_worked 52 = .ok (.iload_n 1, 1) := by decide +kernel
theorem dX11_worked_53 : decode cX11_worked 53 = .ok (.iload_n 2, 1) := by decide +kernel
theorem dX11_worked_54 : decode cX11_worked 54 = .ok (.isub, 1) := by decide +kernel
theorem dX11_worked_55 : decode cX11_worked 55 = .ok (.ireturn, 1) := by decide +kernel
theorem dX11_worked_56 : decode cX11_worked 56 = .ok (.iload_n 1, 1) := by decide +kernel
theorem dX11_worked_57 : decode cX11_worked 57 = .ok (.iload_n 2, 1) := by decide +kernel
theorem dX11_worked_58 : decode cX11_worked 58 = .ok (.imul, 1) := by decide +kernel
theorem dX11_worked_59 : decode cX11_worked 59 = .ok (.ireturn, 1) := by decide +kernel
theorem dX11_worked_60 : decode cX11_worked 60 = .ok (.iload_n 2, 1) := by decide +kernel
theorem dX11_worked_61 : decode cX11_worked 61 = .ok (.ifCond .ne 7, 3) := by decide +kernel
theorem dX11_worked_64 : decode cX11_worked 64 = .ok (.iconst 0, 1) := by decide +kernel
theorem dX11_worked_65 : decode cX11_worked 65 = .ok (.goto 6, 3) := by decide +kernel
theorem dX11_worked_68 : decode cX11_worked 68 = .ok (.iload_n 1, 1) := by decide +kernel
theorem dX11_worked_69 : decode cX11_worked 69 = .ok (.iload_n 2, 1) := by decide +kernel
theorem dX11_worked_70 : decode cX11_worked 70 = .ok (.idiv, 1) := by decide +kernel
theorem dX11_worked_71 : decode cX11_worked 71 = .ok (.ireturn, 1) := by decide +kernel
theorem dX11_worked_72 : decode cX11_worked 72 = .ok (.iload_n 2, 1) := by decide +kernel
theorem dX11_worked_73 : decode cX11_worked 73 = .ok (.ifCond .ne 7, 3) := by decide +kernel
theorem dX11_worked_76 : decode cX11_worked 76 = .ok (.iconst 0, 1) := by decide +kernel
theorem dX11_worked_77 : decode cX11_worked 77 = .ok (.goto 6, 3) := by decide +kernel
theorem dX11_worked_80 : decode cX11_worked 80 = .ok (.iload_n 1, 1) := by decide +kernel
theorem dX11_worked_81 : decode cX11_worked 81 = .ok (.iload_n 2, 1) := by decide +kernel
theorem dX11_worked_82 : decode cX11_worked 82 = .ok (.irem, 1) := by decide +kernel
theorem dX11_worked_83 : decode cX11_worked 83 = .ok (.ireturn, 1) := by decide +kernel
theorem dX11_worked_84 : decode cX11_worked 84 = .ok (.iload_n 1, 1) := by decide +kernel
theorem dX11_worked_85 : decode cX11_worked 85 = .ok (.iload_n 2, 1) := by decide +kernel
theorem dX11_worked_86 : decode cX11_worked 86 = .ok (.if_icmp .ge 7, 3) := by decide +kernel
theorem dX11_worked_89 : decode cX11_worked 89 = .ok (.iconst 1, 1) := by decide +kernel
theorem dX11_worked_90 : decode cX11_worked 90 = .ok (.goto 4, 3) := by decide +kernel
theorem dX11_worked_93 : decode cX11_worked 93 = .ok (.iconst 0, 1) := by decide +kernel
theorem dX11_worked_94 : decode cX11_worked 94 = .ok (.ireturn, 1) := by decide +kernel
theorem dX11_worked_95 : decode cX11_worked 95 = .ok (.iload_n 1, 1) := by decide +kernel
theorem dX11_worked_96 : decode cX11_worked 96 = .ok (.iload_n 2, 1) := by decide +kernel
theorem dX11_worked_97 : decode cX11_worked 97 = .ok (.if_icmp .le 7, 3) := by decide +kernel
theorem dX11_worked_100 : decode cX11_worked 100 = .ok (.iconst 1, 1) := by decide +kernel
theorem dX11_worked_101 : decode cX11_worked 101 = .ok (.goto 4, 3) := by decide +kernel
theorem dX11_worked_104 : decode cX11_worked 104 = .ok (.iconst 0, 1) := by decide +kernel
theorem dX11_worked_105 : decode cX11_worked 105 = .ok (.ireturn, 1) := by decide +kernel
theorem dX11_worked_106 : decode cX11_worked 106 = .ok (.iload_n 1, 1) := by decide +kernel
theorem dX11_worked_107 : decode cX11_worked 107 = .ok (.iload_n 2, 1) := by decide +kernel
theorem dX11_worked_108 : decode cX11_worked 108 = .ok (.if_icmp .ne 7, 3) := by decide +kernel
theorem dX11_worked_111 : decode cX11_worked 111 = .ok (.iconst 1, 1) := by decide +kernel
theorem dX11_worked_112 : decode cX11_worked 112 = .ok (.goto 4, 3) := by decide +kernel
theorem dX11_worked_115 : decode cX11_worked 115 = .ok (.iconst 0, 1) := by decide +kernel
theorem dX11_worked_116 : decode cX11_worked 116 = .ok (.ireturn, 1) := by decide +kernel
theorem dX11_goes_0 : decode cX11_goes 0 = .ok (.aload_n 0, 1) := by decide +kernel
theorem dX11_goes_1 : decode cX11_goes 1 = .ok (.getfield 27, 3) := by decide +kernel
theorem dX11_goes_4 : decode cX11_goes 4 = .ok (.sipush 500, 3) := by decide +kernel
theorem dX11_goes_7 : decode cX11_goes 7 = .ok (.iload_n 1, 1) := by decide +kernel
theorem dX11_goes_8 : decode cX11_goes 8 = .ok (.imul, 1) := by decide +kernel
theorem dX11_goes_9 : decode cX11_goes 9 = .ok (.aload_n 0, 1) := by decide +kernel
theorem dX11_goes_10 : decode cX11_goes 10 = .ok (.getfield 42, 3) := by decide +kernel
theorem dX11_goes_13 : decode cX11_goes 13 = .ok (.iconst 0, 1) := by decide +kernel
theorem dX11_goes_14 : decode cX11_goes 14 = .ok (.iaload, 1) := by decide +kernel
theorem dX11_goes_15 : decode cX11_goes 15 = .ok (.iadd, 1) := by decide +kernel
theorem dX11_goes_16 : decode cX11_goes 16 = .ok (.iaload, 1) := by decide +kernel
theorem dX11_goes_17 : decode cX11_goes 17 = .ok (.istore_n 2, 1) := by decide +kernel
theorem dX11_goes_18 : decode cX11_goes 18 = .ok (.aload_n 0, 1) := by decide +kernel
theorem dX11_goes_19 : decode cX11_goes 19 = .ok (.getfield 30, 3) := by decide +kernel
theorem dX11_goes_22 : decode cX11_goes 22 = .ok (.sipush 500, 3) := by decide +kernel
theorem dX11_goes_25 : decode cX11_goes 25 = .ok (.iload_n 1, 1) := by decide +kernel
theorem dX11_goes_26 : decode cX11_goes 26 = .ok (.imul, 1) := by decide +kernel
theorem dX11_goes_27 : decode cX11_goes 27 = .ok (.aload_n 0, 1) := by decide +kernel
theorem dX11_goes_28 : decode cX11_goes 28 = .ok (.getfield 42, 3) := by decide +kernel
theorem dX11_goes_31 : decode cX11_goes 31 = .ok (.iconst 0, 1) := by decide +kernel
theorem dX11_goes_32 : decode cX11_goes 32 = .ok (.iaload, 1) := by decide +kernel
theorem dX11_goes_33 : decode cX11_goes 33 = .ok (.iadd, 1) := by decide +kernel
theorem dX11_goes_34 : decode cX11_goes 34 = .ok (.iaload, 1) := by decide +kernel
theorem dX11_goes_35 : decode cX11_goes 35 = .ok (.istore_n 3, 1) := by decide +kernel
theorem dX11_goes_36 : decode cX11_goes 36 = .ok (.iload_n 2, 1) := by decide +kernel
theorem dX11_goes_37 : decode cX11_goes 37 = .ok (.ifCond .ne 5, 3) := by decide +kernel
theorem dX11_goes_40 : decode cX11_goes 40 = .ok (.iconst 0, 1) := by decide +kernel
theorem dX11_goes_41 : decode cX11_goes 41 = .ok (.ireturn, 1) := by decide +kernel
theorem dX11_goes_42 : decode cX11_goes 42 = .ok (.aload_n 0, 1) := by decide +kernel
theorem dX11_goes_43 : decode cX11_goes 43 = .ok (.getfield 42, 3) := by decide +kernel
theorem dX11_goes_46 : decode cX11_goes 46 = .ok (.iconst 0, 1) := by decide +kernel
theorem dX11_goes_47 : decode cX11_goes 47 = .ok (.dup2, 1) := by decide +kernel
theorem dX11_goes_48 : decode cX11_goes 48 = .ok (.iaload, 1) := by decide +kernel
theorem dX11_goes_49 : decode cX11_goes 49 = .ok (.iconst 1, 1) := by decide +kernel
theorem dX11_goes_50 : decode cX11_goes 50 = .ok (.iadd, 1) := by decide +kernel
theorem dX11_goes_51 : decode cX11_goes 51 = .ok (.iastore, 1) := by decide +kernel
theorem dX11_goes_52 : decode cX11_goes 52 = .ok (.iload_n 2, 1) := by decide +kernel
theorem dX11_goes_53 : decode cX11_goes 53 = .ok (.bipush 6, 2) := by decide +kernel
theorem dX11_goes_55 : decode cX11_goes 55 = .ok (.if_icmp .lt 35, 3) := by decide +kernel
theorem dX11_goes_58 : decode cX11_goes 58 = .ok (.iload_n 2, 1) := by decide +kernel
theorem dX11_goes_59 : decode cX11_goes 59 = .ok (.bipush 14, 2) := by decide +kernel
theorem dX11_goes_61 : decode cX11_goes 61 = .ok (.if_icmp .ge 29, 3) := by decide +kernel
theorem dX11_goes_64 : decode cX11_goes 64 = .ok (.aload_n 0, 1) := by decide +kernel
theorem dX11_goes_65 : decode cX11_goes 65 = .ok (.invokevirtual 291, 3) := by decide +kernel
theorem dX11_goes_68 : decode cX11_goes 68 = .ok (.istore 4, 2) := by decide +kernel
theorem dX11_goes_70 : decode cX11_goes 70 = .ok (.aload_n 0, 1) := by decide +kernel
theorem dX11_goes_71 : decode cX11_goes 71 = .ok (.invokevirtual 291, 3) := by decide +kernel
theorem dX11_goes_74 : decode cX11_goes 74 = .ok (.istore 5, 2) := by decide +kernel
theorem dX11_goes_76 : decode cX11_goes 76 = .ok (.aload_n 0, 1) := by decide +kernel
theorem dX11_goes_77 : decode cX11_goes 77 = .ok (.iload_n 2, 1) := by decide +kernel
theorem dX11_goes_78 : decode cX11_goes 78 = .ok (.iload 5, 2) := by decide +kernel
theorem dX11_goes_80 : decode cX11_goes 80 = .ok (.iload 4, 2) := by decide +kernel
theorem dX11_goes_82 : decode cX11_goes 82 = .ok (.invokestatic 294, 3) := by decide +kernel
theorem dX11_goes_85 : decode cX11_goes 85 = .ok (.invokevirtual 298, 3) := by decide +kernel
theorem dX11_goes_88 : decode cX11_goes 88 = .ok (.iconst 1, 1) := by decide +kernel
theorem dX11_goes_89 : decode cX11_goes 89 = .ok (.ireturn, 1) := by decide +kernel
theorem dX11_goes_90 : decode cX11_goes 90 = .ok (.iload_n 2, 1) := by decide +kernel
theorem dX11_goes_91 : decode cX11_goes 91 = .ok (.tableswitch 194 1 15 #[73, 81, 96, 111, 133, 194, 194, 194, 194, 194, 194, 194, 194, 163, 173], 73) := by decide +kernel
theorem dX11_goes_164 : decode cX11_goes 164 = .ok (.aload_n 0, 1) := by decide +kernel
theorem dX11_goes_165 : decode cX11_goes 165 = .ok (.iload_n 3, 1) := by decide +kernel
theorem dX11_goes_166 : decode cX11_goes 166 = .ok (.invokevirtual 298, 3) := by decide +kernel
theorem dX11_goes_169 : decode cX11_goes 169 = .ok (.goto 181, 3) := by decide +kernel
theorem dX11_goes_172 : decode cX11_goes 172 = .ok (.aload_n 0, 1) := by decide +kernel
theorem dX11_goes_173 : decode cX11_goes 173 = .ok (.aload_n 0, 1) := by decide +kernel
theorem dX11_goes_174 : decode cX11_goes 174 = .ok (.getfield 42, 3) := by decide +kernel
theorem dX11_goes_177 : decode cX11_goes 177 = .ok (.iconst 4, 1) := by decide +kernel
theorem dX11_goes_178 : decode cX11_goes 178 = .ok (.iload_n 3, 1) := by decide +kernel
theorem dX11_goes_179 : decode cX11_goes 179 = .ok (.iadd, 1) := by decide +kernel
theorem dX11_goes_180 : decode cX11_goes 180 = .ok (.iaload, 1) := by decide +kernel
theorem dX11_goes_181 : decode cX11_goes 181 = .ok (.invokevirtual 298, 3) := by decide +kernel
theorem dX11_goes_184 : decode cX11_goes 184 = .ok (.goto 166, 3) := by decide +kernel
theorem dX11_goes_187 : decode cX11_goes 187 = .ok (.aload_n 0, 1) := by decide +kernel
theorem dX11_goes_188 : decode cX11_goes 188 = .ok (.getfield 42, 3) := by decide +kernel
theorem dX11_goes_191 : decode cX11_goes 191 = .ok (.iconst 4, 1) := by decide +kernel
theorem dX11_goes_192 : decode cX11_goes 192 = .ok (.iload_n 3, 1) := by decide +kernel
theorem dX11_goes_193 : decode cX11_goes 193 = .ok (.iadd, 1) := by decide +kernel
theorem dX11_goes_194 : decode cX11_goes 194 = .ok (.aload_n 0, 1) := by decide +kernel
theorem dX11_goes_195 : decode cX11_goes 195 = .ok (.invokevirtual 291, 3) := by decide +kernel
theorem dX11_goes_198 : decode cX11_goes 198 = .ok (.iastore, 1) := by decide +kernel
theorem dX11_goes_199 : decode cX11_goes 199 = .ok (.goto 151, 3) := by decide +kernel
theorem dX11_goes_202 : decode cX11_goes 202 = .ok (.aload_n 0, 1) := by decide +kernel
theorem dX11_goes_203 : decode cX11_goes 203 = .ok (.aload_n 0, 1) := by decide +kernel
theorem dX11_goes_204 : decode cX11_goes 204 = .ok (.getfield 42, 3) := by decide +kernel
theorem dX11_goes_207 : decode cX11_goes 207 = .ok (.bipush 64, 2) := by decide +kernel
theorem dX11_goes_209 : decode cX11_goes 209 = .ok (.aload_n 0, 1) := by decide +kernel
theorem dX11_goes_210 : decode cX11_goes 210 = .ok (.invokevirtual 291, 3) := by decide +kernel
theorem dX11_goes_213 : decode cX11_goes 213 = .ok (.bipush 63, 2) := by decide +kernel
theorem dX11_goes_215 : decode cX11_goes 215 = .ok (.iand, 1) := by decide +kernel
theorem dX11_goes_216 : decode cX11_goes 216 = .ok (.iadd, 1) := by decide +kernel
theorem dX11_goes_217 : decode cX11_goes 217 = .ok (.iaload, 1) := by decide +kernel
theorem dX11_goes_218 : decode cX11_goes 218 = .ok (.invokevirtual 298, 3) := by decide +kernel
theorem dX11_goes_221 : decode cX11_goes 221 = .ok (.goto 129, 3) := by decide +kernel
theorem dX11_goes_224 : decode cX11_goes 224 = .ok (.aload_n 0, 1) := by decide +kernel
theorem dX11_goes_225 : decode cX11_goes 225 = .ok (.invokevirtual 291, 3) := by decide +kernel
theorem dX11_goes_228 : decode cX11_goes 228 = .ok (.istore 4, 2) := by decide +kernel
theorem dX11_goes_230 : decode cX11_goes 230 = .ok (.aload_n 0, 1) := by decide +kernel
theorem dX11_goes_231 : decode cX11_goes 231 = .ok (.invokevirtual 291, 3) := by decide +kernel
theorem dX11_goes_234 : decode cX11_goes 234 = .ok (.bipush 63, 2) := by decide +kernel
theorem dX11_goes_236 : decode cX11_goes 236 = .ok (.iand, 1) := by decide +kernel
theorem dX11_goes_237 : decode cX11_goes 237 = .ok (.istore 5, 2) := by decide +kernel
theorem dX11_goes_239 : decode cX11_goes 239 = .ok (.aload_n 0, 1) := by decide +kernel
theorem dX11_goes_240 : decode cX11_goes 240 = .ok (.getfield 42, 3) := by decide +kernel
theorem dX11_goes_243 : decode cX11_goes 243 = .ok (.bipush 64, 2) := by decide +kernel
theorem dX11_goes_245 : decode cX11_goes 245 = .ok (.iload 5, 2) := by decide +kernel
theorem dX11_goes_247 : decode cX11_goes 247 = .ok (.iadd, 1) := by decide +kernel
theorem dX11_goes_248 : decode cX11_goes 248 = .ok (.iload 4, 2) := by decide +kernel
theorem dX11_goes_250 : decode cX11_goes 250 = .ok (.iastore, 1) := by decide +kernel
theorem dX11_goes_251 : decode cX11_goes 251 = .ok (.goto 99, 3) := by decide +kernel
theorem dX11_goes_254 : decode cX11_goes 254 = .ok (.aload_n 0, 1) := by decide +kernel
theorem dX11_goes_255 : decode cX11_goes 255 = .ok (.getfield 42, 3) := by decide +kernel
theorem dX11_goes_258 : decode cX11_goes 258 = .ok (.iconst 0, 1) := by decide +kernel
theorem dX11_goes_259 : decode cX11_goes 259 = .ok (.iload_n 3, 1) := by decide +kernel
theorem dX11_goes_260 : decode cX11_goes 260 = .ok (.iastore, 1) := by decide +kernel
theorem dX11_goes_261 : decode cX11_goes 261 = .ok (.goto 89, 3) := by decide +kernel
theorem dX11_goes_264 : decode cX11_goes 264 = .ok (.aload_n 0, 1) := by decide +kernel
theorem dX11_goes_265 : decode cX11_goes 265 = .ok (.invokevirtual 291, 3) := by decide +kernel
theorem dX11_goes_268 : decode cX11_goes 268 = .ok (.istore 4, 2) := by decide +kernel
theorem dX11_goes_270 : decode cX11_goes 270 = .ok (.iload 4, 2) := by decide +kernel
theorem dX11_goes_272 : decode cX11_goes 272 = .ok (.ifCond .ne 78, 3) := by decide +kernel
theorem dX11_goes_275 : decode cX11_goes 275 = .ok (.aload_n 0, 1) := by decide +kernel
theorem dX11_goes_276 : decode cX11_goes 276 = .ok (.getfield 42, 3) := by decide +kernel
theorem dX11_goes_279 : decode cX11_goes 279 = .ok (.iconst 0, 1) := by decide +kernel
theorem dX11_goes_280 : decode cX11_goes 280 = .ok (.iload_n 3, 1) := by decide +kernel
theorem dX11_goes_281 : decode cX11_goes 281 = .ok (.iastore, 1) := by decide +kernel
theorem dX11_goes_282 : decode cX11_goes 282 = .ok (.goto 68, 3) := by decide +kernel
theorem dX11_goes_285 : decode cX11_goes 285 = .ok (.aload_n 0, 1) := by decide +kernel
theorem dX11_goes_286 : decode cX11_goes 286 = .ok (.invokevirtual 291, 3) := by decide +kernel
theorem dX11_goes_289 : decode cX11_goes 289 = .ok (.istore 4, 2) := by decide +kernel
theorem dX11_goes_291 : decode cX11_goes 291 = .ok (.aload_n 0, 1) := by decide +kernel
theorem dX11_goes_292 : decode cX11_goes 292 = .ok (.getfield 42, 3) := by decide +kernel
theorem dX11_goes_295 : decode cX11_goes 295 = .ok (.iconst 2, 1) := by decide +kernel
theorem dX11_goes_296 : decode cX11_goes 296 = .ok (.iaload, 1) := by decide +kernel
theorem dX11_goes_297 : decode cX11_goes 297 = .ok (.iconst 0, 1) := by decide +kernel
theorem dX11_goes_298 : decode cX11_goes 298 = .ok (.bipush 9, 2) := by decide +kernel
theorem dX11_goes_300 : decode cX11_goes 300 = .ok (.invokestatic 276, 3) := by decide +kernel
theorem dX11_goes_303 : decode cX11_goes 303 = .ok (.ifCond .eq 16, 3) := by decide +kernel
theorem dX11_goes_306 : decode cX11_goes 306 = .ok (.aload_n 0, 1) := by decide +kernel
theorem dX11_goes_307 : decode cX11_goes 307 = .ok (.getfield 45, 3) := by decide +kernel
theorem dX11_goes_310 : decode cX11_goes 310 = .ok (.aload_n 0, 1) := by decide +kernel
theorem dX11_goes_311 : decode cX11_goes 311 = .ok (.getfield 42, 3) := by decide +kernel
theorem dX11_goes_314 : decode cX11_goes 314 = .ok (.iconst 2, 1) := by decide +kernel
theorem dX11_goes_315 : decode cX11_goes 315 = .ok (.iaload, 1) := by decide +kernel
theorem dX11_goes_316 : decode cX11_goes 316 = .ok (.iload 4, 2) := by decide +kernel
theorem dX11_goes_318 : decode cX11_goes 318 = .ok (.iastore, 1) := by decide +kernel
theorem dX11_goes_319 : decode cX11_goes 319 = .ok (.aload_n 0, 1) := by decide +kernel
theorem dX11_goes_320 : decode cX11_goes 320 = .ok (.getfield 42, 3) := by decide +kernel
theorem dX11_goes_323 : decode cX11_goes 323 = .ok (.iconst 2, 1) := by decide +kernel
theorem dX11_goes_324 : decode cX11_goes 324 = .ok (.dup2, 1) := by decide +kernel
theorem dX11_goes_325 : decode cX11_goes 325 = .ok (.iaload, 1) := by decide +kernel
theorem dX11_goes_326 : decode cX11_goes 326 = .ok (.iconst 1, 1) := by decide +kernel
theorem dX11_goes_327 : decode cX11_goes 327 = .ok (.iadd, 1) := by decide +kernel
theorem dX11_goes_328 : decode cX11_goes 328 = .ok (.iastore, 1) := by decide +kernel
theorem dX11_goes_329 : decode cX11_goes 329 = .ok (.aload_n 0, 1) := by decide +kernel
theorem dX11_goes_330 : decode cX11_goes 330 = .ok (.getfield 42, 3) := by decide +kernel
theorem dX11_goes_333 : decode cX11_goes 333 = .ok (.iconst 3, 1) := by decide +kernel
theorem dX11_goes_334 : decode cX11_goes 334 = .ok (.bipush 31, 2) := by decide +kernel
theorem dX11_goes_336 : decode cX11_goes 336 = .ok (.aload_n 0, 1) := by decide +kernel
theorem dX11_goes_337 : decode cX11_goes 337 = .ok (.getfield 42, 3) := by decide +kernel
theorem dX11_goes_340 : decode cX11_goes 340 = .ok (.iconst 3, 1) := by decide +kernel
theorem dX11_goes_341 : decode cX11_goes 341 = .ok (.iaload, 1) := by decide +kernel
theorem dX11_goes_342 : decode cX11_goes 342 = .ok (.imul, 1) := by decide +kernel
theorem dX11_goes_343 : decode cX11_goes 343 = .ok (.iload 4, 2) := by decide +kernel
theorem dX11_goes_345 : decode cX11_goes 345 = .ok (.iadd, 1) := by decide +kernel
theorem dX11_goes_346 : decode cX11_goes 346 = .ok (.iastore, 1) := by decide +kernel
theorem dX11_goes_347 : decode cX11_goes 347 = .ok (.goto 3, 3) := by decide +kernel
theorem dX11_goes_350 : decode cX11_goes 350 = .ok (.iconst 1, 1) := by decide +kernel
theorem dX11_goes_351 : decode cX11_goes 351 = .ok (.ireturn, 1) := by decide +kernel
theorem dX11_runs_0 : decode cX11_runs 0 = .ok (.aload_n 0, 1) := by decide +kernel
theorem dX11_runs_1 : decode cX11_runs 1 = .ok (.iload_n 1, 1) := by decide +kernel
theorem dX11_runs_2 : decode cX11_runs 2 = .ok (.iload_n 2, 1) := by decide +kernel
theorem dX11_runs_3 : decode cX11_runs 3 = .ok (.iload_n 3, 1) := by decide +kernel
theorem dX11_runs_4 : decode cX11_runs 4 = .ok (.invokevirtual 301, 3) := by decide +kernel
theorem dX11_runs_7 : decode cX11_runs 7 = .ok (.iconst 0, 1) := by decide +kernel
theorem dX11_runs_8 : decode cX11_runs 8 = .ok (.istore 5, 2) := by decide +kernel
theorem dX11_runs_10 : decode cX11_runs 10 = .ok (.iload 5, 2) := by decide +kernel
theorem dX11_runs_12 : decode cX11_runs 12 = .ok (.iload 4, 2) := by decide +kernel
theorem dX11_runs_14 : decode cX11_runs 14 = .ok (.if_icmp .ge 17, 3) := by decide +kernel
theorem dX11_runs_17 : decode cX11_runs 17 = .ok (.aload_n 0, 1) := by decide +kernel
theorem dX11_runs_18 : decode cX11_runs 18 = .ok (.iload_n 1, 1) := by decide +kernel
theorem dX11_runs_19 : decode cX11_runs 19 = .ok (.invokevirtual 305, 3) := by decide +kernel
theorem dX11_runs_22 : decode cX11_runs 22 = .ok (.ifCond .eq 9, 3) := by decide +kernel
theorem dX11_runs_25 : decode cX11_runs 25 = .ok (.iinc 5 1, 3) := by decide +kernel
theorem dX11_runs_28 : decode cX11_runs 28 = .ok (.goto (-18), 3) := by decide +kernel
theorem dX11_runs_31 : decode cX11_runs 31 = .ok (.iload 5, 2) := by decide +kernel
theorem dX11_runs_33 : decode cX11_runs 33 = .ok (.ireturn, 1) := by decide +kernel
theorem dX11_lengthOf_0 : decode cX11_lengthOf 0 = .ok (.aload_n 0, 1) := by decide +kernel
theorem dX11_lengthOf_1 : decode cX11_lengthOf 1 = .ok (.iload_n 1, 1) := by decide +kernel
theorem dX11_lengthOf_2 : decode cX11_lengthOf 2 = .ok (.iconst 0, 1) := by decide +kernel
theorem dX11_lengthOf_3 : decode cX11_lengthOf 3 = .ok (.iconst 0, 1) := by decide +kernel
theorem dX11_lengthOf_4 : decode cX11_lengthOf 4 = .ok (.sipush 20000, 3) := by decide +kernel
theorem dX11_lengthOf_7 : decode cX11_lengthOf 7 = .ok (.invokevirtual 308, 3) := by decide +kernel
theorem dX11_lengthOf_10 : decode cX11_lengthOf 10 = .ok (.istore_n 2, 1) := by decide +kernel
theorem dX11_lengthOf_11 : decode cX11_lengthOf 11 = .ok (.aload_n 0, 1) := by decide +kernel
theorem dX11_lengthOf_12 : decode cX11_lengthOf 12 = .ok (.getfield 27, 3) := by decide +kernel
theorem dX11_lengthOf_15 : decode cX11_lengthOf 15 = .ok (.sipush 500, 3) := by decide +kernel
theorem dX11_lengthOf_18 : decode cX11_lengthOf 18 = .ok (.iload_n 1, 1) := by decide +kernel
theorem dX11_lengthOf_19 : decode cX11_lengthOf 19 = .ok (.imul, 1) := by decide +kernel
theorem dX11_lengthOf_20 : decode cX11_lengthOf 20 = .ok (.aload_n 0, 1) := by decide +kernel
theorem dX11_lengthOf_21 : decode cX11_lengthOf 21 = .ok (.getfield 42, 3) := by decide +kernel
theorem dX11_lengthOf_24 : decode cX11_lengthOf 24 = .ok (.iconst 0, 1) := by decide +kernel
theorem dX11_lengthOf_25 : decode cX11_lengthOf 25 = .ok (.iaload, 1) := by decide +kernel
theorem dX11_lengthOf_26 : decode cX11_lengthOf 26 = .ok (.iadd, 1) := by decide +kernel
theorem dX11_lengthOf_27 : decode cX11_lengthOf 27 = .ok (.iaload, 1) := by decide +kernel
theorem dX11_lengthOf_28 : decode cX11_lengthOf 28 = .ok (.ifCond .ne 7, 3) := by decide +kernel
theorem dX11_lengthOf_31 : decode cX11_lengthOf 31 = .ok (.iload_n 2, 1) := by decide +kernel
theorem dX11_lengthOf_32 : decode cX11_lengthOf 32 = .ok (.goto 4, 3) := by decide +kernel
theorem dX11_lengthOf_35 : decode cX11_lengthOf 35 = .ok (.iconst (-1), 1) := by decide +kernel
theorem dX11_lengthOf_36 : decode cX11_lengthOf 36 = .ok (.ireturn, 1) := by decide +kernel
theorem dX11_length_0 : decode cX11_length 0 = .ok (.aload_n 0, 1) := by decide +kernel
theorem dX11_length_1 : decode cX11_length 1 = .ok (.iload_n 1, 1) := by decide +kernel
theorem dX11_length_2 : decode cX11_length 2 = .ok (.invokevirtual 284, 3) := by decide +kernel
theorem dX11_length_5 : decode cX11_length 5 = .ok (.ifCond .eq 11, 3) := by decide +kernel
theorem dX11_length_8 : decode cX11_length 8 = .ok (.aload_n 0, 1) := by decide +kernel
theorem dX11_length_9 : decode cX11_length 9 = .ok (.iload_n 1, 1) := by decide +kernel
theorem dX11_length_10 : decode cX11_length 10 = .ok (.invokevirtual 311, 3) := by decide +kernel
theorem dX11_length_13 : decode cX11_length 13 = .ok (.goto 4, 3) := by decide +kernel
theorem dX11_length_16 : decode cX11_length 16 = .ok (.iconst 0, 1) := by decide +kernel
theorem dX11_length_17 : decode cX11_length 17 = .ok (.ireturn, 1) := by decide +kernel
theorem dX11_cell_0 : decode cX11_cell 0 = .ok (.aload_n 0, 1) := by decide +kernel
theorem dX11_cell_1 : decode cX11_cell 1 = .ok (.iload_n 1, 1) := by decide +kernel
theorem dX11_cell_2 : decode cX11_cell 2 = .ok (.invokevirtual 284, 3) := by decide +kernel
theorem dX11_cell_5 : decode cX11_cell 5 = .ok (.ifCond .eq 37, 3) := by decide +kernel
theorem dX11_cell_8 : decode cX11_cell 8 = .ok (.aload_n 0, 1) := by decide +kernel
theorem dX11_cell_9 : decode cX11_cell 9 = .ok (.iload_n 2, 1) := by decide +kernel
theorem dX11_cell_10 : decode cX11_cell 10 = .ok (.iconst 0, 1) := by decide +kernel
theorem dX11_cell_11 : decode cX11_cell 11 = .ok (.sipush 20000, 3) := by decide +kernel
theorem dX11_cell_14 : decode cX11_cell 14 = .ok (.invokestatic 276, 3) := by decide +kernel
theorem dX11_cell_17 : decode cX11_cell 17 = .ok (.ifCond .eq 13, 3) := by decide +kernel
theorem dX11_cell_20 : decode cX11_cell 20 = .ok (.iload_n 3, 1) := by decide +kernel
theorem dX11_cell_21 : decode cX11_cell 21 = .ok (.iconst 0, 1) := by decide +kernel
theorem dX11_cell_22 : decode cX11_cell 22 = .ok (.bipush 127, 2) := by decide +kernel
theorem dX11_cell_24 : decode cX11_cell 24 = .ok (.invokestatic 276, 3) := by decide +kernel
theorem dX11_cell_27 : decode cX11_cell 27 = .ok (.ifCond .ne 7, 3) := by decide +kernel
theorem dX11_cell_30 : decode cX11_cell 30 = .ok (.iconst 1, 1) := by decide +kernel
theorem dX11_cell_31 : decode cX11_cell 31 = .ok (.goto 4, 3) := by decide +kernel
theorem dX11_cell_34 : decode cX11_cell 34 = .ok (.iconst 0, 1) := by decide +kernel
theorem dX11_cell_35 : decode cX11_cell 35 = .ok (.iconst 2, 1) := by decide +kernel
theorem dX11_cell_36 : decode cX11_cell 36 = .ok (.invokevirtual 280, 3) := by decide +kernel
theorem dX11_cell_39 : decode cX11_cell 39 = .ok (.ifCond .eq 5, 3) := by decide +kernel
theorem dX11_cell_42 : decode cX11_cell 42 = .ok (.iconst 0, 1) := by decide +kernel
theorem dX11_cell_43 : decode cX11_cell 43 = .ok (.ireturn, 1) := by decide +kernel
theorem dX11_cell_44 : decode cX11_cell 44 = .ok (.aload_n 0, 1) := by decide +kernel
theorem dX11_cell_45 : decode cX11_cell 45 = .ok (.iload_n 1, 1) := by decide +kernel
theorem dX11_cell_46 : decode cX11_cell 46 = .ok (.iconst 0, 1) := by decide +kernel
theorem dX11_cell_47 : decode cX11_cell 47 = .ok (.iconst 0, 1) := by decide +kernel
theorem dX11_cell_48 : decode cX11_cell 48 = .ok (.iload_n 2, 1) := by decide +kernel
theorem dX11_cell_49 : decode cX11_cell 49 = .ok (.invokevirtual 308, 3) := by decide +kernel
theorem dX11_cell_52 : decode cX11_cell 52 = .ok (.pop, 1) := by decide +kernel
theorem dX11_cell_53 : decode cX11_cell 53 = .ok (.aload_n 0, 1) := by decide +kernel
theorem dX11_cell_54 : decode cX11_cell 54 = .ok (.getfield 42, 3) := by decide +kernel
theorem dX11_cell_57 : decode cX11_cell 57 = .ok (.iload_n 3, 1) := by decide +kernel
theorem dX11_cell_58 : decode cX11_cell 58 = .ok (.iaload, 1) := by decide +kernel
theorem dX11_cell_59 : decode cX11_cell 59 = .ok (.ireturn, 1) := by decide +kernel
theorem dX11_pageSum_0 : decode cX11_pageSum 0 = .ok (.bipush 17, 2) := by decide +kernel
theorem dX11_pageSum_2 : decode cX11_pageSum 2 = .ok (.istore_n 2, 1) := by decide +kernel
theorem dX11_pageSum_3 : decode cX11_pageSum 3 = .ok (.bipush 8, 2) := by decide +kernel
theorem dX11_pageSum_5 : decode cX11_pageSum 5 = .ok (.iload_n 1, 1) := by decide +kernel
theorem dX11_pageSum_6 : decode cX11_pageSum 6 = .ok (.imul, 1) := by decide +kernel
theorem dX11_pageSum_7 : decode cX11_pageSum 7 = .ok (.istore_n 3, 1) := by decide +kernel
theorem dX11_pageSum_8 : decode cX11_pageSum 8 = .ok (.iload_n 3, 1) := by decide +kernel
theorem dX11_pageSum_9 : decode cX11_pageSum 9 = .ok (.bipush 8, 2) := by decide +kernel
theorem dX11_pageSum_11 : decode cX11_pageSum 11 = .ok (.iload_n 1, 1) := by decide +kernel
theorem dX11_pageSum_12 : decode cX11_pageSum 12 = .ok (.imul, 1) := by decide +kernel
theorem dX11_pageSum_13 : decode cX11_pageSum 13 = .ok (.bipush 8, 2) := by decide +kernel
theorem dX11_pageSum_15 : decode cX11_pageSum 15 = .ok (.iadd, 1) := by decide +kernel
theorem dX11_pageSum_16 : decode cX11_pageSum 16 = .ok (.if_icmp .ge 21, 3) := by decide +kernel
theorem dX11_pageSum_19 : decode cX11_pageSum 19 = .ok (.bipush 31, 2) := by decide +kernel
theorem dX11_pageSum_21 : decode cX11_pageSum 21 = .ok (.iload_n 2, 1) := by decide +kernel
theorem dX11_pageSum_22 : decode cX11_pageSum 22 = .ok (.imul, 1) := by decide +kernel
theorem dX11_pageSum_23 : decode cX11_pageSum 23 = .ok (.aload_n 0, 1) := by decide +kernel
theorem dX11_pageSum_24 : decode cX11_pageSum 24 = .ok (.getfield 42, 3) := by decide +kernel
theorem dX11_pageSum_27 : decode cX11_pageSum 27 = .ok (.iload_n 3, 1) := by decide +kernel
theorem dX11_pageSum_28 : decode cX11_pageSum 28 = .ok (.iaload, 1) := by decide +kernel
theorem dX11_pageSum_29 : decode cX11_pageSum 29 = .ok (.iadd, 1) := by decide +kernel
theorem dX11_pageSum_30 : decode cX11_pageSum 30 = .ok (.istore_n 2, 1) := by decide +kernel
theorem dX11_pageSum_31 : decode cX11_pageSum 31 = .ok (.iinc 3 1, 3) := by decide +kernel
theorem dX11_pageSum_34 : decode cX11_pageSum 34 = .ok (.goto (-26), 3) := by decide +kernel
theorem dX11_pageSum_37 : decode cX11_pageSum 37 = .ok (.iload_n 2, 1) := by decide +kernel
theorem dX11_pageSum_38 : decode cX11_pageSum 38 = .ok (.ireturn, 1) := by decide +kernel
theorem dX11_joined_0 : decode cX11_joined 0 = .ok (.ldc_w 314, 3) := by decide +kernel
theorem dX11_joined_3 : decode cX11_joined 3 = .ok (.iload_n 0, 1) := by decide +kernel
theorem dX11_joined_4 : decode cX11_joined 4 = .ok (.imul, 1) := by decide +kernel
theorem dX11_joined_5 : decode cX11_joined 5 = .ok (.bipush 7, 2) := by decide +kernel
theorem dX11_joined_7 : decode cX11_joined 7 = .ok (.iload_n 1, 1) := by decide +kernel
theorem dX11_joined_8 : decode cX11_joined 8 = .ok (.imul, 1) := by decide +kernel
theorem dX11_joined_9 : decode cX11_joined 9 = .ok (.iadd, 1) := by decide +kernel
theorem dX11_joined_10 : decode cX11_joined 10 = .ok (.iconst 1, 1) := by decide +kernel
theorem dX11_joined_11 : decode cX11_joined 11 = .ok (.iadd, 1) := by decide +kernel
theorem dX11_joined_12 : decode cX11_joined 12 = .ok (.ireturn, 1) := by decide +kernel
theorem dX11_sums_0 : decode cX11_sums 0 = .ok (.aload_n 0, 1) := by decide +kernel
theorem dX11_sums_1 : decode cX11_sums 1 = .ok (.iload_n 1, 1) := by decide +kernel
theorem dX11_sums_2 : decode cX11_sums 2 = .ok (.iconst 0, 1) := by decide +kernel
theorem dX11_sums_3 : decode cX11_sums 3 = .ok (.iconst 0, 1) := by decide +kernel
theorem dX11_sums_4 : decode cX11_sums 4 = .ok (.iload_n 2, 1) := by decide +kernel
theorem dX11_sums_5 : decode cX11_sums 5 = .ok (.invokevirtual 308, 3) := by decide +kernel
theorem dX11_sums_8 : decode cX11_sums 8 = .ok (.pop, 1) := by decide +kernel
theorem dX11_sums_9 : decode cX11_sums 9 = .ok (.iconst 0, 1) := by decide +kernel
theorem dX11_sums_10 : decode cX11_sums 10 = .ok (.istore_n 3, 1) := by decide +kernel
theorem dX11_sums_11 : decode cX11_sums 11 = .ok (.iload_n 3, 1) := by decide +kernel
theorem dX11_sums_12 : decode cX11_sums 12 = .ok (.bipush 16, 2) := by decide +kernel
theorem dX11_sums_14 : decode cX11_sums 14 = .ok (.if_icmp .ge 23, 3) := by decide +kernel
theorem dX11_sums_17 : decode cX11_sums 17 = .ok (.aload_n 0, 1) := by decide +kernel
theorem dX11_sums_18 : decode cX11_sums 18 = .ok (.getfield 48, 3) := by decide +kernel
theorem dX11_sums_21 : decode cX11_sums 21 = .ok (.bipush 16, 2) := by decide +kernel
theorem dX11_sums_23 : decode cX11_sums 23 = .ok (.iload_n 3, 1) := by decide +kernel
theorem dX11_sums_24 : decode cX11_sums 24 = .ok (.iadd, 1) := by decide +kernel
theorem dX11_sums_25 : decode cX11_sums 25 = .ok (.aload_n 0, 1) := by decide +kernel
theorem dX11_sums_26 : decode cX11_sums 26 = .ok (.iload_n 3, 1) := by decide +kernel
theorem dX11_sums_27 : decode cX11_sums 27 = .ok (.invokevirtual 315, 3) := by decide +kernel
theorem dX11_sums_30 : decode cX11_sums 30 = .ok (.iastore, 1) := by decide +kernel
theorem dX11_sums_31 : decode cX11_sums 31 = .ok (.iinc 3 1, 3) := by decide +kernel
theorem dX11_sums_34 : decode cX11_sums 34 = .ok (.goto (-23), 3) := by decide +kernel
theorem dX11_sums_37 : decode cX11_sums 37 = .ok (.bipush 15, 2) := by decide +kernel
theorem dX11_sums_39 : decode cX11_sums 39 = .ok (.istore_n 3, 1) := by decide +kernel
theorem dX11_sums_40 : decode cX11_sums 40 = .ok (.iload_n 3, 1) := by decide +kernel
theorem dX11_sums_41 : decode cX11_sums 41 = .ok (.ifCond .le 36, 3) := by decide +kernel
theorem dX11_sums_44 : decode cX11_sums 44 = .ok (.aload_n 0, 1) := by decide +kernel
theorem dX11_sums_45 : decode cX11_sums 45 = .ok (.getfield 48, 3) := by decide +kernel
theorem dX11_sums_48 : decode cX11_sums 48 = .ok (.iload_n 3, 1) := by decide +kernel
theorem dX11_sums_49 : decode cX11_sums 49 = .ok (.aload_n 0, 1) := by decide +kernel
theorem dX11_sums_50 : decode cX11_sums 50 = .ok (.getfield 48, 3) := by decide +kernel
theorem dX11_sums_53 : decode cX11_sums 53 = .ok (.iconst 2, 1) := by decide +kernel
theorem dX11_sums_54 : decode cX11_sums 54 = .ok (.iload_n 3, 1) := by decide +kernel
theorem dX11_sums_55 : decode cX11_sums 55 = .ok (.imul, 1) := by decide +kernel
theorem dX11_sums_56 : decode cX11_sums 56 = .ok (.iaload, 1) := by decide +kernel
theorem dX11_sums_57 : decode cX11_sums 57 = .ok (.aload_n 0, 1) := by decide +kernel
theorem dX11_sums_58 : decode cX11_sums 58 = .ok (.getfield 48, 3) := by decide +kernel
theorem dX11_sums_61 : decode cX11_sums 61 = .ok (.iconst 2, 1) := by decide +kernel
theorem dX11_sums_62 : decode cX11_sums 62 = .ok (.iload_n 3, 1) := by decide +kernel
theorem dX11_sums_63 : decode cX11_sums 63 = .ok (.imul, 1) := by decide +kernel
theorem dX11_sums_64 : decode cX11_sums 64 = .ok (.iconst 1, 1) := by decide +kernel
theorem dX11_sums_65 : decode cX11_sums 65 = .ok (.iadd, 1) := by decide +kernel
theorem dX11_sums_66 : decode cX11_sums 66 = .ok (.iaload, 1) := by decide +kernel
theorem dX11_sums_67 : decode cX11_sums 67 = .ok (.invokestatic 318, 3) := by decide +kernel
theorem dX11_sums_70 : decode cX11_sums 70 = .ok (.iastore, 1) := by decide +kernel
theorem dX11_sums_71 : decode cX11_sums 71 = .ok (.iinc 3 (-1), 3) := by decide +kernel
theorem dX11_sums_74 : decode cX11_sums 74 = .ok (.goto (-34), 3) := by decide +kernel
theorem dX11_sums_77 : decode cX11_sums 77 = .ok (.return_, 1) := by decide +kernel
theorem dX11_sumOf_0 : decode cX11_sumOf 0 = .ok (.aload_n 0, 1) := by decide +kernel
theorem dX11_sumOf_1 : decode cX11_sumOf 1 = .ok (.iload_n 1, 1) := by decide +kernel
theorem dX11_sumOf_2 : decode cX11_sumOf 2 = .ok (.iload_n 2, 1) := by decide +kernel
theorem dX11_sumOf_3 : decode cX11_sumOf 3 = .ok (.invokevirtual 321, 3) := by decide +kernel
theorem dX11_sumOf_6 : decode cX11_sumOf 6 = .ok (.aload_n 0, 1) := by decide +kernel
theorem dX11_sumOf_7 : decode cX11_sumOf 7 = .ok (.getfield 48, 3) := by decide +kernel
theorem dX11_sumOf_10 : decode cX11_sumOf 10 = .ok (.iconst 1, 1) := by decide +kernel
theorem dX11_sumOf_11 : decode cX11_sumOf 11 = .ok (.iaload, 1) := by decide +kernel
theorem dX11_sumOf_12 : decode cX11_sumOf 12 = .ok (.ireturn, 1) := by decide +kernel
