theorem dX11_trial_0 : decode cX11_trial 0 = .ok (.aload_n 0, 1) := by decide +kernel
theorem dX11_trial_1 : decode cX11_trial 1 = .ok (.iconst 0, 1) := by decide +kernel
theorem dX11_trial_2 : decode cX11_trial 2 = .ok (.putfield 151, 3) := by decide +kernel
theorem dX11_trial_5 : decode cX11_trial 5 = .ok (.aload_n 0, 1) := by decide +kernel
theorem dX11_trial_6 : decode cX11_trial 6 = .ok (.aload_n 0, 1) := by decide +kernel
theorem dX11_trial_7 : decode cX11_trial 7 = .ok (.iload_n 1, 1) := by decide +kernel
theorem dX11_trial_8 : decode cX11_trial 8 = .ok (.invokevirtual 333, 3) := by decide +kernel
theorem dX11_trial_11 : decode cX11_trial 11 = .ok (.ifCond .eq 17, 3) := by decide +kernel
theorem dX11_trial_14 : decode cX11_trial 14 = .ok (.iload_n 2, 1) := by decide +kernel
theorem dX11_trial_15 : decode cX11_trial 15 = .ok (.iconst 0, 1) := by decide +kernel
theorem dX11_trial_16 : decode cX11_trial 16 = .ok (.aload_n 0, 1) := by decide +kernel
theorem dX11_trial_17 : decode cX11_trial 17 = .ok (.getfield 205, 3) := by decide +kernel
theorem dX11_trial_20 : decode cX11_trial 20 = .ok (.iconst 1, 1) := by decide +kernel
theorem dX11_trial_21 : decode cX11_trial 21 = .ok (.isub, 1) := by decide +kernel
theorem dX11_trial_22 : decode cX11_trial 22 = .ok (.invokestatic 276, 3) := by decide +kernel
theorem dX11_trial_25 : decode cX11_trial 25 = .ok (.ifCond .ne 7, 3) := by decide +kernel
theorem dX11_trial_28 : decode cX11_trial 28 = .ok (.iconst 1, 1) := by decide +kernel
theorem dX11_trial_29 : decode cX11_trial 29 = .ok (.goto 4, 3) := by decide +kernel
theorem dX11_trial_32 : decode cX11_trial 32 = .ok (.iconst 0, 1) := by decide +kernel
theorem dX11_trial_33 : decode cX11_trial 33 = .ok (.iconst 1, 1) := by decide +kernel
theorem dX11_trial_34 : decode cX11_trial 34 = .ok (.invokevirtual 280, 3) := by decide +kernel
theorem dX11_trial_37 : decode cX11_trial 37 = .ok (.ifCond .ne 27, 3) := by decide +kernel
theorem dX11_trial_40 : decode cX11_trial 40 = .ok (.aload_n 0, 1) := by decide +kernel
theorem dX11_trial_41 : decode cX11_trial 41 = .ok (.iload_n 3, 1) := by decide +kernel
theorem dX11_trial_42 : decode cX11_trial 42 = .ok (.iconst 0, 1) := by decide +kernel
theorem dX11_trial_43 : decode cX11_trial 43 = .ok (.sipush 20000, 3) := by decide +kernel
theorem dX11_trial_46 : decode cX11_trial 46 = .ok (.invokestatic 276, 3) := by decide +kernel
theorem dX11_trial_49 : decode cX11_trial 49 = .ok (.ifCond .ne 7, 3) := by decide +kernel
theorem dX11_trial_52 : decode cX11_trial 52 = .ok (.iconst 1, 1) := by decide +kernel
theorem dX11_trial_53 : decode cX11_trial 53 = .ok (.goto 4, 3) := by decide +kernel
theorem dX11_trial_56 : decode cX11_trial 56 = .ok (.iconst 0, 1) := by decide +kernel
theorem dX11_trial_57 : decode cX11_trial 57 = .ok (.iconst 2, 1) := by decide +kernel
theorem dX11_trial_58 : decode cX11_trial 58 = .ok (.invokevirtual 280, 3) := by decide +kernel
theorem dX11_trial_61 : decode cX11_trial 61 = .ok (.ifCond .eq 5, 3) := by decide +kernel
theorem dX11_trial_64 : decode cX11_trial 64 = .ok (.iconst 0, 1) := by decide +kernel
theorem dX11_trial_65 : decode cX11_trial 65 = .ok (.ireturn, 1) := by decide +kernel
theorem dX11_trial_66 : decode cX11_trial 66 = .ok (.aload_n 0, 1) := by decide +kernel
theorem dX11_trial_67 : decode cX11_trial 67 = .ok (.iload_n 2, 1) := by decide +kernel
theorem dX11_trial_68 : decode cX11_trial 68 = .ok (.iload_n 3, 1) := by decide +kernel
theorem dX11_trial_69 : decode cX11_trial 69 = .ok (.invokevirtual 324, 3) := by decide +kernel
theorem dX11_trial_72 : decode cX11_trial 72 = .ok (.iload 4, 2) := by decide +kernel
theorem dX11_trial_74 : decode cX11_trial 74 = .ok (.if_icmp .ne 7, 3) := by decide +kernel
theorem dX11_trial_77 : decode cX11_trial 77 = .ok (.iconst 1, 1) := by decide +kernel
theorem dX11_trial_78 : decode cX11_trial 78 = .ok (.goto 4, 3) := by decide +kernel
theorem dX11_trial_81 : decode cX11_trial 81 = .ok (.iconst 0, 1) := by decide +kernel
theorem dX11_trial_82 : decode cX11_trial 82 = .ok (.istore 5, 2) := by decide +kernel
theorem dX11_trial_84 : decode cX11_trial 84 = .ok (.iload 5, 2) := by decide +kernel
theorem dX11_trial_86 : decode cX11_trial 86 = .ok (.ifCond .eq 16, 3) := by decide +kernel
theorem dX11_trial_89 : decode cX11_trial 89 = .ok (.aload_n 0, 1) := by decide +kernel
theorem dX11_trial_90 : decode cX11_trial 90 = .ok (.getfield 118, 3) := by decide +kernel
theorem dX11_trial_93 : decode cX11_trial 93 = .ok (.iload_n 1, 1) := by decide +kernel
theorem dX11_trial_94 : decode cX11_trial 94 = .ok (.dup2, 1) := by decide +kernel
theorem dX11_trial_95 : decode cX11_trial 95 = .ok (.iaload, 1) := by decide +kernel
theorem dX11_trial_96 : decode cX11_trial 96 = .ok (.iconst 1, 1) := by decide +kernel
theorem dX11_trial_97 : decode cX11_trial 97 = .ok (.iadd, 1) := by decide +kernel
theorem dX11_trial_98 : decode cX11_trial 98 = .ok (.iastore, 1) := by decide +kernel
theorem dX11_trial_99 : decode cX11_trial 99 = .ok (.goto 13, 3) := by decide +kernel
theorem dX11_trial_102 : decode cX11_trial 102 = .ok (.aload_n 0, 1) := by decide +kernel
theorem dX11_trial_103 : decode cX11_trial 103 = .ok (.getfield 121, 3) := by decide +kernel
theorem dX11_trial_106 : decode cX11_trial 106 = .ok (.iload_n 1, 1) := by decide +kernel
theorem dX11_trial_107 : decode cX11_trial 107 = .ok (.dup2, 1) := by decide +kernel
theorem dX11_trial_108 : decode cX11_trial 108 = .ok (.iaload, 1) := by decide +kernel
theorem dX11_trial_109 : decode cX11_trial 109 = .ok (.iconst 1, 1) := by decide +kernel
theorem dX11_trial_110 : decode cX11_trial 110 = .ok (.iadd, 1) := by decide +kernel
theorem dX11_trial_111 : decode cX11_trial 111 = .ok (.iastore, 1) := by decide +kernel
theorem dX11_trial_112 : decode cX11_trial 112 = .ok (.iload 5, 2) := by decide +kernel
theorem dX11_trial_114 : decode cX11_trial 114 = .ok (.ireturn, 1) := by decide +kernel
theorem dX11_dropBid_0 : decode cX11_dropBid 0 = .ok (.aload_n 0, 1) := by decide +kernel
theorem dX11_dropBid_1 : decode cX11_dropBid 1 = .ok (.dup, 1) := by decide +kernel
theorem dX11_dropBid_2 : decode cX11_dropBid 2 = .ok (.getfield 375, 3) := by decide +kernel
theorem dX11_dropBid_5 : decode cX11_dropBid 5 = .ok (.aload_n 0, 1) := by decide +kernel
theorem dX11_dropBid_6 : decode cX11_dropBid 6 = .ok (.getfield 124, 3) := by decide +kernel
theorem dX11_dropBid_9 : decode cX11_dropBid 9 = .ok (.bipush 8, 2) := by decide +kernel
theorem dX11_dropBid_11 : decode cX11_dropBid 11 = .ok (.iload_n 1, 1) := by decide +kernel
theorem dX11_dropBid_12 : decode cX11_dropBid 12 = .ok (.imul, 1) := by decide +kernel
theorem dX11_dropBid_13 : decode cX11_dropBid 13 = .ok (.iload_n 2, 1) := by decide +kernel
theorem dX11_dropBid_14 : decode cX11_dropBid 14 = .ok (.iadd, 1) := by decide +kernel
theorem dX11_dropBid_15 : decode cX11_dropBid 15 = .ok (.baload, 1) := by decide +kernel
theorem dX11_dropBid_16 : decode cX11_dropBid 16 = .ok (.ifCond .eq 7, 3) := by decide +kernel
theorem dX11_dropBid_19 : decode cX11_dropBid 19 = .ok (.iconst 1, 1) := by decide +kernel
theorem dX11_dropBid_20 : decode cX11_dropBid 20 = .ok (.goto 4, 3) := by decide +kernel
theorem dX11_dropBid_23 : decode cX11_dropBid 23 = .ok (.iconst 0, 1) := by decide +kernel
theorem dX11_dropBid_24 : decode cX11_dropBid 24 = .ok (.isub, 1) := by decide +kernel
theorem dX11_dropBid_25 : decode cX11_dropBid 25 = .ok (.putfield 375, 3) := by decide +kernel
theorem dX11_dropBid_28 : decode cX11_dropBid 28 = .ok (.aload_n 0, 1) := by decide +kernel
theorem dX11_dropBid_29 : decode cX11_dropBid 29 = .ok (.getfield 124, 3) := by decide +kernel
theorem dX11_dropBid_32 : decode cX11_dropBid 32 = .ok (.bipush 8, 2) := by decide +kernel
theorem dX11_dropBid_34 : decode cX11_dropBid 34 = .ok (.iload_n 1, 1) := by decide +kernel
theorem dX11_dropBid_35 : decode cX11_dropBid 35 = .ok (.imul, 1) := by decide +kernel
theorem dX11_dropBid_36 : decode cX11_dropBid 36 = .ok (.iload_n 2, 1) := by decide +kernel
theorem dX11_dropBid_37 : decode cX11_dropBid 37 = .ok (.iadd, 1) := by decide +kernel
theorem dX11_dropBid_38 : decode cX11_dropBid 38 = .ok (.iconst 0, 1) := by decide +kernel
theorem dX11_dropBid_39 : decode cX11_dropBid 39 = .ok (.bastore, 1) := by decide +kernel
theorem dX11_dropBid_40 : decode cX11_dropBid 40 = .ok (.return_, 1) := by decide +kernel
theorem dX11_bid_0 : decode cX11_bid 0 = .ok (.aload_n 0, 1) := by decide +kernel
theorem dX11_bid_1 : decode cX11_bid 1 = .ok (.iload_n 1, 1) := by decide +kernel
theorem dX11_bid_2 : decode cX11_bid 2 = .ok (.iload_n 2, 1) := by decide +kernel
theorem dX11_bid_3 : decode cX11_bid 3 = .ok (.invokevirtual 336, 3) := by decide +kernel
theorem dX11_bid_6 : decode cX11_bid 6 = .ok (.ifCond .eq 71, 3) := by decide +kernel
theorem dX11_bid_9 : decode cX11_bid 9 = .ok (.aload_n 0, 1) := by decide +kernel
theorem dX11_bid_10 : decode cX11_bid 10 = .ok (.aload_n 0, 1) := by decide +kernel
theorem dX11_bid_11 : decode cX11_bid 11 = .ok (.iload_n 3, 1) := by decide +kernel
theorem dX11_bid_12 : decode cX11_bid 12 = .ok (.invokevirtual 333, 3) := by decide +kernel
theorem dX11_bid_15 : decode cX11_bid 15 = .ok (.ifCond .ne 7, 3) := by decide +kernel
theorem dX11_bid_18 : decode cX11_bid 18 = .ok (.iconst 1, 1) := by decide +kernel
theorem dX11_bid_19 : decode cX11_bid 19 = .ok (.goto 4, 3) := by decide +kernel
theorem dX11_bid_22 : decode cX11_bid 22 = .ok (.iconst 0, 1) := by decide +kernel
theorem dX11_bid_23 : decode cX11_bid 23 = .ok (.iconst 1, 1) := by decide +kernel
theorem dX11_bid_24 : decode cX11_bid 24 = .ok (.invokevirtual 280, 3) := by decide +kernel
theorem dX11_bid_27 : decode cX11_bid 27 = .ok (.ifCond .ne 50, 3) := by decide +kernel
theorem dX11_bid_30 : decode cX11_bid 30 = .ok (.aload_n 0, 1) := by decide +kernel
theorem dX11_bid_31 : decode cX11_bid 31 = .ok (.iload 4, 2) := by decide +kernel
theorem dX11_bid_33 : decode cX11_bid 33 = .ok (.iconst 0, 1) := by decide +kernel
theorem dX11_bid_34 : decode cX11_bid 34 = .ok (.ldc 224, 2) := by decide +kernel
theorem dX11_bid_36 : decode cX11_bid 36 = .ok (.invokestatic 276, 3) := by decide +kernel
theorem dX11_bid_39 : decode cX11_bid 39 = .ok (.ifCond .eq 26, 3) := by decide +kernel
theorem dX11_bid_42 : decode cX11_bid 42 = .ok (.iload 6, 2) := by decide +kernel
theorem dX11_bid_44 : decode cX11_bid 44 = .ok (.iconst 0, 1) := by decide +kernel
theorem dX11_bid_45 : decode cX11_bid 45 = .ok (.ldc 224, 2) := by decide +kernel
theorem dX11_bid_47 : decode cX11_bid 47 = .ok (.invokestatic 276, 3) := by decide +kernel
theorem dX11_bid_50 : decode cX11_bid 50 = .ok (.ifCond .eq 15, 3) := by decide +kernel
theorem dX11_bid_53 : decode cX11_bid 53 = .ok (.iload 5, 2) := by decide +kernel
theorem dX11_bid_55 : decode cX11_bid 55 = .ok (.iconst 1, 1) := by decide +kernel
theorem dX11_bid_56 : decode cX11_bid 56 = .ok (.sipush 1000, 3) := by decide +kernel
theorem dX11_bid_59 : decode cX11_bid 59 = .ok (.invokestatic 276, 3) := by decide +kernel
theorem dX11_bid_62 : decode cX11_bid 62 = .ok (.ifCond .ne 7, 3) := by decide +kernel
theorem dX11_bid_65 : decode cX11_bid 65 = .ok (.iconst 1, 1) := by decide +kernel
theorem dX11_bid_66 : decode cX11_bid 66 = .ok (.goto 4, 3) := by decide +kernel
theorem dX11_bid_69 : decode cX11_bid 69 = .ok (.iconst 0, 1) := by decide +kernel
theorem dX11_bid_70 : decode cX11_bid 70 = .ok (.iconst 2, 1) := by decide +kernel
theorem dX11_bid_71 : decode cX11_bid 71 = .ok (.invokevirtual 280, 3) := by decide +kernel
theorem dX11_bid_74 : decode cX11_bid 74 = .ok (.ifCond .eq 5, 3) := by decide +kernel
theorem dX11_bid_77 : decode cX11_bid 77 = .ok (.iconst 0, 1) := by decide +kernel
theorem dX11_bid_78 : decode cX11_bid 78 = .ok (.ireturn, 1) := by decide +kernel
theorem dX11_bid_79 : decode cX11_bid 79 = .ok (.bipush 20, 2) := by decide +kernel
theorem dX11_bid_81 : decode cX11_bid 81 = .ok (.iload_n 1, 1) := by decide +kernel
theorem dX11_bid_82 : decode cX11_bid 82 = .ok (.imul, 1) := by decide +kernel
theorem dX11_bid_83 : decode cX11_bid 83 = .ok (.iload_n 2, 1) := by decide +kernel
theorem dX11_bid_84 : decode cX11_bid 84 = .ok (.iadd, 1) := by decide +kernel
theorem dX11_bid_85 : decode cX11_bid 85 = .ok (.istore 7, 2) := by decide +kernel
theorem dX11_bid_87 : decode cX11_bid 87 = .ok (.bipush 8, 2) := by decide +kernel
theorem dX11_bid_89 : decode cX11_bid 89 = .ok (.iload 7, 2) := by decide +kernel
theorem dX11_bid_91 : decode cX11_bid 91 = .ok (.imul, 1) := by decide +kernel
theorem dX11_bid_92 : decode cX11_bid 92 = .ok (.iload_n 3, 1) := by decide +kernel
theorem dX11_bid_93 : decode cX11_bid 93 = .ok (.iadd, 1) := by decide +kernel
theorem dX11_bid_94 : decode cX11_bid 94 = .ok (.istore 8, 2) := by decide +kernel
theorem dX11_bid_96 : decode cX11_bid 96 = .ok (.aload_n 0, 1) := by decide +kernel
theorem dX11_bid_97 : decode cX11_bid 97 = .ok (.getfield 73, 3) := by decide +kernel
theorem dX11_bid_100 : decode cX11_bid 100 = .ok (.iload 7, 2) := by decide +kernel
theorem dX11_bid_102 : decode cX11_bid 102 = .ok (.iaload, 1) := by decide +kernel
theorem dX11_bid_103 : decode cX11_bid 103 = .ok (.ifCond .eq 5, 3) := by decide +kernel
theorem dX11_bid_106 : decode cX11_bid 106 = .ok (.iconst (-1), 1) := by decide +kernel
theorem dX11_bid_107 : decode cX11_bid 107 = .ok (.ireturn, 1) := by decide +kernel
theorem dX11_bid_108 : decode cX11_bid 108 = .ok (.aload_n 0, 1) := by decide +kernel
theorem dX11_bid_109 : decode cX11_bid 109 = .ok (.getfield 124, 3) := by decide +kernel
theorem dX11_bid_112 : decode cX11_bid 112 = .ok (.iload 8, 2) := by decide +kernel
theorem dX11_bid_114 : decode cX11_bid 114 = .ok (.baload, 1) := by decide +kernel
theorem dX11_bid_115 : decode cX11_bid 115 = .ok (.ifCond .ne 15, 3) := by decide +kernel
theorem dX11_bid_118 : decode cX11_bid 118 = .ok (.aload_n 0, 1) := by decide +kernel
theorem dX11_bid_119 : decode cX11_bid 119 = .ok (.getfield 375, 3) := by decide +kernel
theorem dX11_bid_122 : decode cX11_bid 122 = .ok (.bipush 24, 2) := by decide +kernel
theorem dX11_bid_124 : decode cX11_bid 124 = .ok (.if_icmp .ne 6, 3) := by decide +kernel
theorem dX11_bid_127 : decode cX11_bid 127 = .ok (.bipush (-2), 2) := by decide +kernel
theorem dX11_bid_129 : decode cX11_bid 129 = .ok (.ireturn, 1) := by decide +kernel
theorem dX11_bid_130 : decode cX11_bid 130 = .ok (.aload_n 0, 1) := by decide +kernel
theorem dX11_bid_131 : decode cX11_bid 131 = .ok (.dup, 1) := by decide +kernel
theorem dX11_bid_132 : decode cX11_bid 132 = .ok (.getfield 375, 3) := by decide +kernel
theorem dX11_bid_135 : decode cX11_bid 135 = .ok (.aload_n 0, 1) := by decide +kernel
theorem dX11_bid_136 : decode cX11_bid 136 = .ok (.getfield 124, 3) := by decide +kernel
theorem dX11_bid_139 : decode cX11_bid 139 = .ok (.iload 8, 2) := by decide +kernel
theorem dX11_bid_141 : decode cX11_bid 141 = .ok (.baload, 1) := by decide +kernel
theorem dX11_bid_142 : decode cX11_bid 142 = .ok (.ifCond .eq 7, 3) := by decide +kernel
theorem dX11_bid_145 : decode cX11_bid 145 = .ok (.iconst 0, 1) := by decide +kernel
theorem dX11_bid_146 : decode cX11_bid 146 = .ok (.goto 4, 3) := by decide +kernel
theorem dX11_bid_149 : decode cX11_bid 149 = .ok (.iconst 1, 1) := by decide +kernel
theorem dX11_bid_150 : decode cX11_bid 150 = .ok (.iadd, 1) := by decide +kernel
theorem dX11_bid_151 : decode cX11_bid 151 = .ok (.putfield 375, 3) := by decide +kernel
theorem dX11_bid_154 : decode cX11_bid 154 = .ok (.aload_n 0, 1) := by decide +kernel
theorem dX11_bid_155 : decode cX11_bid 155 = .ok (.getfield 124, 3) := by decide +kernel
theorem dX11_bid_158 : decode cX11_bid 158 = .ok (.iload 8, 2) := by decide +kernel
theorem dX11_bid_160 : decode cX11_bid 160 = .ok (.iconst 1, 1) := by decide +kernel
theorem dX11_bid_161 : decode cX11_bid 161 = .ok (.bastore, 1) := by decide +kernel
theorem dX11_bid_162 : decode cX11_bid 162 = .ok (.aload_n 0, 1) := by decide +kernel
theorem dX11_bid_163 : decode cX11_bid 163 = .ok (.getfield 127, 3) := by decide +kernel
theorem dX11_bid_166 : decode cX11_bid 166 = .ok (.iload 8, 2) := by decide +kernel
theorem dX11_bid_168 : decode cX11_bid 168 = .ok (.iload 4, 2) := by decide +kernel
theorem dX11_bid_170 : decode cX11_bid 170 = .ok (.iastore, 1) := by decide +kernel
theorem dX11_bid_171 : decode cX11_bid 171 = .ok (.aload_n 0, 1) := by decide +kernel
theorem dX11_bid_172 : decode cX11_bid 172 = .ok (.getfield 130, 3) := by decide +kernel
theorem dX11_bid_175 : decode cX11_bid 175 = .ok (.iload 8, 2) := by decide +kernel
theorem dX11_bid_177 : decode cX11_bid 177 = .ok (.iload 5, 2) := by decide +kernel
theorem dX11_bid_179 : decode cX11_bid 179 = .ok (.iastore, 1) := by decide +kernel
theorem dX11_bid_180 : decode cX11_bid 180 = .ok (.aload_n 0, 1) := by decide +kernel
theorem dX11_bid_181 : decode cX11_bid 181 = .ok (.getfield 133, 3) := by decide +kernel
theorem dX11_bid_184 : decode cX11_bid 184 = .ok (.iload 8, 2) := by decide +kernel
theorem dX11_bid_186 : decode cX11_bid 186 = .ok (.iload 6, 2) := by decide +kernel
theorem dX11_bid_188 : decode cX11_bid 188 = .ok (.iastore, 1) := by decide +kernel
theorem dX11_bid_189 : decode cX11_bid 189 = .ok (.iconst 1, 1) := by decide +kernel
theorem dX11_bid_190 : decode cX11_bid 190 = .ok (.ireturn, 1) := by decide +kernel
theorem dX11_costOf_0 : decode cX11_costOf 0 = .ok (.aload_n 0, 1) := by decide +kernel
theorem dX11_costOf_1 : decode cX11_costOf 1 = .ok (.iload_n 1, 1) := by decide +kernel
theorem dX11_costOf_2 : decode cX11_costOf 2 = .ok (.invokevirtual 346, 3) := by decide +kernel
theorem dX11_costOf_5 : decode cX11_costOf 5 = .ok (.aload_n 0, 1) := by decide +kernel
theorem dX11_costOf_6 : decode cX11_costOf 6 = .ok (.iload_n 1, 1) := by decide +kernel
theorem dX11_costOf_7 : decode cX11_costOf 7 = .ok (.invokevirtual 327, 3) := by decide +kernel
theorem dX11_costOf_10 : decode cX11_costOf 10 = .ok (.isub, 1) := by decide +kernel
theorem dX11_costOf_11 : decode cX11_costOf 11 = .ok (.i2l, 1) := by decide +kernel
theorem dX11_costOf_12 : decode cX11_costOf 12 = .ok (.ldc2_w 378, 3) := by decide +kernel
theorem dX11_costOf_15 : decode cX11_costOf 15 = .ok (.lmul, 1) := by decide +kernel
theorem dX11_costOf_16 : decode cX11_costOf 16 = .ok (.aload_n 0, 1) := by decide +kernel
theorem dX11_costOf_17 : decode cX11_costOf 17 = .ok (.getfield 121, 3) := by decide +kernel
theorem dX11_costOf_20 : decode cX11_costOf 20 = .ok (.iload_n 2, 1) := by decide +kernel
theorem dX11_costOf_21 : decode cX11_costOf 21 = .ok (.iaload, 1) := by decide +kernel
theorem dX11_costOf_22 : decode cX11_costOf 22 = .ok (.iconst 1, 1) := by decide +kernel
theorem dX11_costOf_23 : decode cX11_costOf 23 = .ok (.iadd, 1) := by decide +kernel
theorem dX11_costOf_24 : decode cX11_costOf 24 = .ok (.i2l, 1) := by decide +kernel
theorem dX11_costOf_25 : decode cX11_costOf 25 = .ok (.lmul, 1) := by decide +kernel
theorem dX11_costOf_26 : decode cX11_costOf 26 = .ok (.aload_n 0, 1) := by decide +kernel
theorem dX11_costOf_27 : decode cX11_costOf 27 = .ok (.getfield 118, 3) := by decide +kernel
theorem dX11_costOf_30 : decode cX11_costOf 30 = .ok (.iload_n 2, 1) := by decide +kernel
theorem dX11_costOf_31 : decode cX11_costOf 31 = .ok (.iaload, 1) := by decide +kernel
theorem dX11_costOf_32 : decode cX11_costOf 32 = .ok (.aload_n 0, 1) := by decide +kernel
theorem dX11_costOf_33 : decode cX11_costOf 33 = .ok (.getfield 121, 3) := by decide +kernel
theorem dX11_costOf_36 : decode cX11_costOf 36 = .ok (.iload_n 2, 1) := by decide +kernel
theorem dX11_costOf_37 : decode cX11_costOf 37 = .ok (.iaload, 1) := by decide +kernel
theorem dX11_costOf_38 : decode cX11_costOf 38 = .ok (.iadd, 1) := by decide +kernel
theorem dX11_costOf_39 : decode cX11_costOf 39 = .ok (.iconst 2, 1) := by decide +kernel
theorem dX11_costOf_40 : decode cX11_costOf 40 = .ok (.iadd, 1) := by decide +kernel
theorem dX11_costOf_41 : decode cX11_costOf 41 = .ok (.i2l, 1) := by decide +kernel
theorem dX11_costOf_42 : decode cX11_costOf 42 = .ok (.ldiv, 1) := by decide +kernel
theorem dX11_costOf_43 : decode cX11_costOf 43 = .ok (.lstore_n 3, 1) := by decide +kernel
theorem dX11_costOf_44 : decode cX11_costOf 44 = .ok (.ldc2_w 378, 3) := by decide +kernel
theorem dX11_costOf_47 : decode cX11_costOf 47 = .ok (.aload_n 0, 1) := by decide +kernel
theorem dX11_costOf_48 : decode cX11_costOf 48 = .ok (.getfield 127, 3) := by decide +kernel
theorem dX11_costOf_51 : decode cX11_costOf 51 = .ok (.bipush 8, 2) := by decide +kernel
theorem dX11_costOf_53 : decode cX11_costOf 53 = .ok (.iload_n 1, 1) := by decide +kernel
theorem dX11_costOf_54 : decode cX11_costOf 54 = .ok (.imul, 1) := by decide +kernel
theorem dX11_costOf_55 : decode cX11_costOf 55 = .ok (.iload_n 2, 1) := by decide +kernel
theorem dX11_costOf_56 : decode cX11_costOf 56 = .ok (.iadd, 1) := by decide +kernel
theorem dX11_costOf_57 : decode cX11_costOf 57 = .ok (.iaload, 1) := by decide +kernel
theorem dX11_costOf_58 : decode cX11_costOf 58 = .ok (.i2l, 1) := by decide +kernel
theorem dX11_costOf_59 : decode cX11_costOf 59 = .ok (.lmul, 1) := by decide +kernel
theorem dX11_costOf_60 : decode cX11_costOf 60 = .ok (.lload_n 3, 1) := by decide +kernel
theorem dX11_costOf_61 : decode cX11_costOf 61 = .ok (.ladd, 1) := by decide +kernel
theorem dX11_costOf_62 : decode cX11_costOf 62 = .ok (.lreturn, 1) := by decide +kernel
theorem dX11_cost_0 : decode cX11_cost 0 = .ok (.aload_n 0, 1) := by decide +kernel
theorem dX11_cost_1 : decode cX11_cost 1 = .ok (.iload_n 1, 1) := by decide +kernel
theorem dX11_cost_2 : decode cX11_cost 2 = .ok (.iload_n 2, 1) := by decide +kernel
theorem dX11_cost_3 : decode cX11_cost 3 = .ok (.invokevirtual 336, 3) := by decide +kernel
theorem dX11_cost_6 : decode cX11_cost 6 = .ok (.ifCond .eq 24, 3) := by decide +kernel
theorem dX11_cost_9 : decode cX11_cost 9 = .ok (.aload_n 0, 1) := by decide +kernel
theorem dX11_cost_10 : decode cX11_cost 10 = .ok (.aload_n 0, 1) := by decide +kernel
theorem dX11_cost_11 : decode cX11_cost 11 = .ok (.iload_n 3, 1) := by decide +kernel
theorem dX11_cost_12 : decode cX11_cost 12 = .ok (.invokevirtual 333, 3) := by decide +kernel
theorem dX11_cost_15 : decode cX11_cost 15 = .ok (.ifCond .ne 7, 3) := by decide +kernel
theorem dX11_cost_18 : decode cX11_cost 18 = .ok (.iconst 1, 1) := by decide +kernel
theorem dX11_cost_19 : decode cX11_cost 19 = .ok (.goto 4, 3) := by decide +kernel
theorem dX11_cost_22 : decode cX11_cost 22 = .ok (.iconst 0, 1) := by decide +kernel
theorem dX11_cost_23 : decode cX11_cost 23 = .ok (.iconst 1, 1) := by decide +kernel
theorem dX11_cost_24 : decode cX11_cost 24 = .ok (.invokevirtual 280, 3) := by decide +kernel
theorem dX11_cost_27 : decode cX11_cost 27 = .ok (.ifCond .eq 5, 3) := by decide +kernel
theorem dX11_cost_30 : decode cX11_cost 30 = .ok (.lconst 0, 1) := by decide +kernel
theorem dX11_cost_31 : decode cX11_cost 31 = .ok (.lreturn, 1) := by decide +kernel
theorem dX11_cost_32 : decode cX11_cost 32 = .ok (.bipush 20, 2) := by decide +kernel
theorem dX11_cost_34 : decode cX11_cost 34 = .ok (.iload_n 1, 1) := by decide +kernel
theorem dX11_cost_35 : decode cX11_cost 35 = .ok (.imul, 1) := by decide +kernel
theorem dX11_cost_36 : decode cX11_cost 36 = .ok (.iload_n 2, 1) := by decide +kernel
theorem dX11_cost_37 : decode cX11_cost 37 = .ok (.iadd, 1) := by decide +kernel
theorem dX11_cost_38 : decode cX11_cost 38 = .ok (.istore 4, 2) := by decide +kernel
theorem dX11_cost_40 : decode cX11_cost 40 = .ok (.aload_n 0, 1) := by decide +kernel
theorem dX11_cost_41 : decode cX11_cost 41 = .ok (.getfield 124, 3) := by decide +kernel
theorem dX11_cost_44 : decode cX11_cost 44 = .ok (.bipush 8, 2) := by decide +kernel
theorem dX11_cost_46 : decode cX11_cost 46 = .ok (.iload 4, 2) := by decide +kernel
theorem dX11_cost_48 : decode cX11_cost 48 = .ok (.imul, 1) := by decide +kernel
theorem dX11_cost_49 : decode cX11_cost 49 = .ok (.iload_n 3, 1) := by decide +kernel
theorem dX11_cost_50 : decode cX11_cost 50 = .ok (.iadd, 1) := by decide +kernel
theorem dX11_cost_51 : decode cX11_cost 51 = .ok (.baload, 1) := by decide +kernel
theorem dX11_cost_52 : decode cX11_cost 52 = .ok (.ifCond .eq 13, 3) := by decide +kernel
theorem dX11_cost_55 : decode cX11_cost 55 = .ok (.aload_n 0, 1) := by decide +kernel
theorem dX11_cost_56 : decode cX11_cost 56 = .ok (.iload 4, 2) := by decide +kernel
theorem dX11_cost_58 : decode cX11_cost 58 = .ok (.iload_n 3, 1) := by decide +kernel
theorem dX11_cost_59 : decode cX11_cost 59 = .ok (.invokevirtual 380, 3) := by decide +kernel
theorem dX11_cost_62 : decode cX11_cost 62 = .ok (.goto 6, 3) := by decide +kernel
theorem dX11_cost_65 : decode cX11_cost 65 = .ok (.ldc2_w 384, 3) := by decide +kernel
theorem dX11_cost_68 : decode cX11_cost 68 = .ok (.lreturn, 1) := by decide +kernel
theorem dX11_chooses_0 : decode cX11_chooses 0 = .ok (.aload_n 0, 1) := by decide +kernel
theorem dX11_chooses_1 : decode cX11_chooses 1 = .ok (.getfield 386, 3) := by decide +kernel
theorem dX11_chooses_4 : decode cX11_chooses 4 = .ok (.lconst 0, 1) := by decide +kernel
theorem dX11_chooses_5 : decode cX11_chooses 5 = .ok (.lcmp, 1) := by decide +kernel
theorem dX11_chooses_6 : decode cX11_chooses 6 = .ok (.ifCond .lt 14, 3) := by decide +kernel
theorem dX11_chooses_9 : decode cX11_chooses 9 = .ok (.lload 5, 2) := by decide +kernel
theorem dX11_chooses_11 : decode cX11_chooses 11 = .ok (.aload_n 0, 1) := by decide +kernel
theorem dX11_chooses_12 : decode cX11_chooses 12 = .ok (.getfield 386, 3) := by decide +kernel
theorem dX11_chooses_15 : decode cX11_chooses 15 = .ok (.lcmp, 1) := by decide +kernel
theorem dX11_chooses_16 : decode cX11_chooses 16 = .ok (.ifCond .lt 4, 3) := by decide +kernel
theorem dX11_chooses_19 : decode cX11_chooses 19 = .ok (.return_, 1) := by decide +kernel
theorem dX11_chooses_20 : decode cX11_chooses 20 = .ok (.iload_n 2, 1) := by decide +kernel
theorem dX11_chooses_21 : decode cX11_chooses 21 = .ok (.iload_n 3, 1) := by decide +kernel
theorem dX11_chooses_22 : decode cX11_chooses 22 = .ok (.if_icmp .ne 39, 3) := by decide +kernel
theorem dX11_chooses_25 : decode cX11_chooses 25 = .ok (.aload_n 0, 1) := by decide +kernel
theorem dX11_chooses_26 : decode cX11_chooses 26 = .ok (.lload 5, 2) := by decide +kernel
theorem dX11_chooses_28 : decode cX11_chooses 28 = .ok (.putfield 386, 3) := by decide +kernel
theorem dX11_chooses_31 : decode cX11_chooses 31 = .ok (.iconst 0, 1) := by decide +kernel
theorem dX11_chooses_32 : decode cX11_chooses 32 = .ok (.istore 7, 2) := by decide +kernel
theorem dX11_chooses_34 : decode cX11_chooses 34 = .ok (.iload 7, 2) := by decide +kernel
theorem dX11_chooses_36 : decode cX11_chooses 36 = .ok (.iload_n 3, 1) := by decide +kernel
theorem dX11_chooses_37 : decode cX11_chooses 37 = .ok (.if_icmp .ge 23, 3) := by decide +kernel
theorem dX11_chooses_40 : decode cX11_chooses 40 = .ok (.aload_n 0, 1) := by decide +kernel
theorem dX11_chooses_41 : decode cX11_chooses 41 = .ok (.getfield 142, 3) := by decide +kernel
theorem dX11_chooses_44 : decode cX11_chooses 44 = .ok (.iload 7, 2) := by decide +kernel
theorem dX11_chooses_46 : decode cX11_chooses 46 = .ok (.aload_n 0, 1) := by decide +kernel
theorem dX11_chooses_47 : decode cX11_chooses 47 = .ok (.getfield 139, 3) := by decide +kernel
theorem dX11_chooses_50 : decode cX11_chooses 50 = .ok (.iload 7, 2) := by decide +kernel
theorem dX11_chooses_52 : decode cX11_chooses 52 = .ok (.iaload, 1) := by decide +kernel
theorem dX11_chooses_53 : decode cX11_chooses 53 = .ok (.iastore, 1) := by decide +kernel
theorem dX11_chooses_54 : decode cX11_chooses 54 = .ok (.iinc 7 1, 3) := by decide +kernel
theorem dX11_chooses_57 : decode cX11_chooses 57 = .ok (.goto (-23), 3) := by decide +kernel
theorem dX11_chooses_60 : decode cX11_chooses 60 = .ok (.return_, 1) := by decide +kernel
theorem dX11_chooses_61 : decode cX11_chooses 61 = .ok (.bipush 20, 2) := by decide +kernel
theorem dX11_chooses_63 : decode cX11_chooses 63 = .ok (.iload_n 1, 1) := by decide +kernel
theorem dX11_chooses_64 : decode cX11_chooses 64 = .ok (.imul, 1) := by decide +kernel
theorem dX11_chooses_65 : decode cX11_chooses 65 = .ok (.aload_n 0, 1) := by decide +kernel
theorem dX11_chooses_66 : decode cX11_chooses 66 = .ok (.getfield 136, 3) := by decide +kernel
theorem dX11_chooses_69 : decode cX11_chooses 69 = .ok (.iload_n 2, 1) := by decide +kernel
theorem dX11_chooses_70 : decode cX11_chooses 70 = .ok (.iaload, 1) := by decide +kernel
theorem dX11_chooses_71 : decode cX11_chooses 71 = .ok (.iadd, 1) := by decide +kernel
theorem dX11_chooses_72 : decode cX11_chooses 72 = .ok (.istore 7, 2) := by decide +kernel
theorem dX11_chooses_74 : decode cX11_chooses 74 = .ok (.iconst 0, 1) := by decide +kernel
theorem dX11_chooses_75 : decode cX11_chooses 75 = .ok (.istore 8, 2) := by decide +kernel
theorem dX11_chooses_77 : decode cX11_chooses 77 = .ok (.iload 8, 2) := by decide +kernel
theorem dX11_chooses_79 : decode cX11_chooses 79 = .ok (.aload_n 0, 1) := by decide +kernel
theorem dX11_chooses_80 : decode cX11_chooses 80 = .ok (.getfield 330, 3) := by decide +kernel
theorem dX11_chooses_83 : decode cX11_chooses 83 = .ok (.if_icmp .ge 175, 3) := by decide +kernel
theorem dX11_chooses_86 : decode cX11_chooses 86 = .ok (.bipush 8, 2) := by decide +kernel
theorem dX11_chooses_88 : decode cX11_chooses 88 = .ok (.iload 7, 2) := by decide +kernel
theorem dX11_chooses_90 : decode cX11_chooses 90 = .ok (.imul, 1) := by decide +kernel
theorem dX11_chooses_91 : decode cX11_chooses 91 = .ok (.iload 8, 2) := by decide +kernel
theorem dX11_chooses_93 : decode cX11_chooses 93 = .ok (.iadd, 1) := by decide +kernel
theorem dX11_chooses_94 : decode cX11_chooses 94 = .ok (.istore 9, 2) := by decide +kernel
theorem dX11_chooses_96 : decode cX11_chooses 96 = .ok (.aload_n 0, 1) := by decide +kernel
theorem dX11_chooses_97 : decode cX11_chooses 97 = .ok (.getfield 124, 3) := by decide +kernel
theorem dX11_chooses_100 : decode cX11_chooses 100 = .ok (.iload 9, 2) := by decide +kernel
theorem dX11_chooses_102 : decode cX11_chooses 102 = .ok (.baload, 1) := by decide +kernel
theorem dX11_chooses_103 : decode cX11_chooses 103 = .ok (.ifCond .eq 149, 3) := by decide +kernel
theorem dX11_chooses_106 : decode cX11_chooses 106 = .ok (.aload_n 0, 1) := by decide +kernel
theorem dX11_chooses_107 : decode cX11_chooses 107 = .ok (.getfield 145, 3) := by decide +kernel
theorem dX11_chooses_110 : decode cX11_chooses 110 = .ok (.iload 8, 2) := by decide +kernel
theorem dX11_chooses_112 : decode cX11_chooses 112 = .ok (.iaload, 1) := by decide +kernel
theorem dX11_chooses_113 : decode cX11_chooses 113 = .ok (.aload_n 0, 1) := by decide +kernel
theorem dX11_chooses_114 : decode cX11_chooses 114 = .ok (.getfield 130, 3) := by decide +kernel
theorem dX11_chooses_117 : decode cX11_chooses 117 = .ok (.iload 9, 2) := by decide +kernel
theorem dX11_chooses_119 : decode cX11_chooses 119 = .ok (.iaload, 1) := by decide +kernel
theorem dX11_chooses_120 : decode cX11_chooses 120 = .ok (.iadd, 1) := by decide +kernel
theorem dX11_chooses_121 : decode cX11_chooses 121 = .ok (.iload 4, 2) := by decide +kernel
theorem dX11_chooses_123 : decode cX11_chooses 123 = .ok (.if_icmp .gt 129, 3) := by decide +kernel
theorem dX11_chooses_126 : decode cX11_chooses 126 = .ok (.aload_n 0, 1) := by decide +kernel
theorem dX11_chooses_127 : decode cX11_chooses 127 = .ok (.getfield 148, 3) := by decide +kernel
theorem dX11_chooses_130 : decode cX11_chooses 130 = .ok (.iload 8, 2) := by decide +kernel
theorem dX11_chooses_132 : decode cX11_chooses 132 = .ok (.iaload, 1) := by decide +kernel
theorem dX11_chooses_133 : decode cX11_chooses 133 = .ok (.aload_n 0, 1) := by decide +kernel
theorem dX11_chooses_134 : decode cX11_chooses 134 = .ok (.getfield 133, 3) := by decide +kernel
theorem dX11_chooses_137 : decode cX11_chooses 137 = .ok (.iload 9, 2) := by decide +kernel
theorem dX11_chooses_139 : decode cX11_chooses 139 = .ok (.iaload, 1) := by decide +kernel
theorem dX11_chooses_140 : decode cX11_chooses 140 = .ok (.iadd, 1) := by decide +kernel
theorem dX11_chooses_141 : decode cX11_chooses 141 = .ok (.aload_n 0, 1) := by decide +kernel
theorem dX11_chooses_142 : decode cX11_chooses 142 = .ok (.getfield 115, 3) := by decide +kernel
theorem dX11_chooses_145 : decode cX11_chooses 145 = .ok (.iload 8, 2) := by decide +kernel
theorem dX11_chooses_147 : decode cX11_chooses 147 = .ok (.iaload, 1) := by decide +kernel
theorem dX11_chooses_148 : decode cX11_chooses 148 = .ok (.if_icmp .le 6, 3) := by decide +kernel
theorem dX11_chooses_151 : decode cX11_chooses 151 = .ok (.goto 101, 3) := by decide +kernel
theorem dX11_chooses_154 : decode cX11_chooses 154 = .ok (.aload_n 0, 1) := by decide +kernel
theorem dX11_chooses_155 : decode cX11_chooses 155 = .ok (.getfield 139, 3) := by decide +kernel
theorem dX11_chooses_158 : decode cX11_chooses 158 = .ok (.iload_n 2, 1) := by decide +kernel
theorem dX11_chooses_159 : decode cX11_chooses 159 = .ok (.iload 8, 2) := by decide +kernel
theorem dX11_chooses_161 : decode cX11_chooses 161 = .ok (.iastore, 1) := by decide +kernel
theorem dX11_chooses_162 : decode cX11_chooses 162 = .ok (.aload_n 0, 1) := by decide +kernel
theorem dX11_chooses_163 : decode cX11_chooses 163 = .ok (.getfield 145, 3) := by decide +kernel
theorem dX11_chooses_166 : decode cX11_chooses 166 = .ok (.iload 8, 2) := by decide +kernel
theorem dX11_chooses_168 : decode cX11_chooses 168 = .ok (.dup2, 1) := by decide +kernel
theorem dX11_chooses_169 : decode cX11_chooses 169 = .ok (.iaload, 1) := by decide +kernel
theorem dX11_chooses_170 : decode cX11_chooses 170 = .ok (.aload_n 0, 1) := by decide +kernel
theorem dX11_chooses_171 : decode cX11_chooses 171 = .ok (.getfield 130, 3) := by decide +kernel
theorem dX11_chooses_174 : decode cX11_chooses 174 = .ok (.iload 9, 2) := by decide +kernel
theorem dX11_chooses_176 : decode cX11_chooses 176 = .ok (.iaload, 1) := by decide +kernel
theorem dX11_chooses_177 : decode cX11_chooses 177 = .ok (.iadd, 1) := by decide +kernel
theorem dX11_chooses_178 : decode cX11_chooses 178 = .ok (.iastore, 1) := by decide +kernel
theorem dX11_chooses_179 : decode cX11_chooses 179 = .ok (.aload_n 0, 1) := by decide +kernel
theorem dX11_chooses_180 : decode cX11_chooses 180 = .ok (.getfield 148, 3) := by decide +kernel
theorem dX11_chooses_183 : decode cX11_chooses 183 = .ok (.iload 8, 2) := by decide +kernel
theorem dX11_chooses_185 : decode cX11_chooses 185 = .ok (.dup2, 1) := by decide +kernel
theorem dX11_chooses_186 : decode cX11_chooses 186 = .ok (.iaload, 1) := by decide +kernel
theorem dX11_chooses_187 : decode cX11_chooses 187 = .ok (.aload_n 0, 1) := by decide +kernel
theorem dX11_chooses_188 : decode cX11_chooses 188 = .ok (.getfield 133, 3) := by decide +kernel
theorem dX11_chooses_191 : decode cX11_chooses 191 = .ok (.iload 9, 2) := by decide +kernel
theorem dX11_chooses_193 : decode cX11_chooses 193 = .ok (.iaload, 1) := by decide +kernel
theorem dX11_chooses_194 : decode cX11_chooses 194 = .ok (.iadd, 1) := by decide +kernel
theorem dX11_chooses_195 : decode cX11_chooses 195 = .ok (.iastore, 1) := by decide +kernel
theorem dX11_chooses_196 : decode cX11_chooses 196 = .ok (.aload_n 0, 1) := by decide +kernel
theorem dX11_chooses_197 : decode cX11_chooses 197 = .ok (.iload_n 1, 1) := by decide +kernel
theorem dX11_chooses_198 : decode cX11_chooses 198 = .ok (.iload_n 2, 1) := by decide +kernel
theorem dX11_chooses_199 : decode cX11_chooses 199 = .ok (.iconst 1, 1) := by decide +kernel
theorem dX11_chooses_200 : decode cX11_chooses 200 = .ok (.iadd, 1) := by decide +kernel
theorem dX11_chooses_201 : decode cX11_chooses 201 = .ok (.iload_n 3, 1) := by decide +kernel
theorem dX11_chooses_202 : decode cX11_chooses 202 = .ok (.iload 4, 2) := by decide +kernel
theorem dX11_chooses_204 : decode cX11_chooses 204 = .ok (.lload 5, 2) := by decide +kernel
theorem dX11_chooses_206 : decode cX11_chooses 206 = .ok (.aload_n 0, 1) := by decide +kernel
theorem dX11_chooses_207 : decode cX11_chooses 207 = .ok (.iload 7, 2) := by decide +kernel
theorem dX11_chooses_209 : decode cX11_chooses 209 = .ok (.iload 8, 2) := by decide +kernel
theorem dX11_chooses_211 : decode cX11_chooses 211 = .ok (.invokevirtual 380, 3) := by decide +kernel
theorem dX11_chooses_214 : decode cX11_chooses 214 = .ok (.ladd, 1) := by decide +kernel
theorem dX11_chooses_215 : decode cX11_chooses 215 = .ok (.invokevirtual 390, 3) := by decide +kernel
theorem dX11_chooses_218 : decode cX11_chooses 218 = .ok (.aload_n 0, 1) := by decide +kernel
theorem dX11_chooses_219 : decode cX11_chooses 219 = .ok (.getfield 145, 3) := by decide +kernel
theorem dX11_chooses_222 : decode cX11_chooses 222 = .ok (.iload 8, 2) := by decide +kernel
theorem dX11_chooses_224 : decode cX11_chooses 224 = .ok (.dup2, 1) := by decide +kernel
theorem dX11_chooses_225 : decode cX11_chooses 225 = .ok (.iaload, 1) := by decide +kernel
theorem dX11_chooses_226 : decode cX11_chooses 226 = .ok (.aload_n 0, 1) := by decide +kernel
theorem dX11_chooses_227 : decode cX11_chooses 227 = .ok (.getfield 130, 3) := by decide +kernel
theorem dX11_chooses_230 : decode cX11_chooses 230 = .ok (.iload 9, 2) := by decide +kernel
theorem dX11_chooses_232 : decode cX11_chooses 232 = .ok (.iaload, 1) := by decide +kernel
theorem dX11_chooses_233 : decode cX11_chooses 233 = .ok (.isub, 1) := by decide +kernel
theorem dX11_chooses_234 : decode cX11_chooses 234 = .ok (.iastore, 1) := by decide +kernel
theorem dX11_chooses_235 : decode cX11_chooses 235 = .ok (.aload_n 0, 1) := by decide +kernel
theorem dX11_chooses_236 : decode cX11_chooses 236 = .ok (.getfield 148, 3) := by decide +kernel
theorem dX11_chooses_239 : decode cX11_chooses 239 = .ok (.iload 8, 2) := by decide +kernel
theorem dX11_chooses_241 : decode cX11_chooses 241 = .ok (.dup2, 1) := by decide +kernel
theorem dX11_chooses_242 : decode cX11_chooses 242 = .ok (.iaload, 1) := by decide +kernel
theorem dX11_chooses_243 : decode cX11_chooses 243 = .ok (.aload_n 0, 1) := by decide +kernel
theorem dX11_chooses_244 : decode cX11_chooses 244 = .ok (.getfield 133, 3) := by decide +kernel
theorem dX11_chooses_247 : decode cX11_chooses 247 = .ok (.iload 9, 2) := by decide +kernel
theorem dX11_chooses_249 : decode cX11_chooses 249 = .ok (.iaload, 1) := by decide +kernel
theorem dX11_chooses_250 : decode cX11_chooses 250 = .ok (.isub, 1) := by decide +kernel
theorem dX11_chooses_251 : decode cX11_chooses 251 = .ok (.iastore, 1) := by decide +kernel
theorem dX11_chooses_252 : decode cX11_chooses 252 = .ok (.iinc 8 1, 3) := by decide +kernel
theorem dX11_chooses_255 : decode cX11_chooses 255 = .ok (.goto (-178), 3) := by decide +kernel
theorem dX11_chooses_258 : decode cX11_chooses 258 = .ok (.return_, 1) := by decide +kernel
theorem dX11_chosen_0 : decode cX11_chosen 0 = .ok (.aload_n 0, 1) := by decide +kernel
theorem dX11_chosen_1 : decode cX11_chosen 1 = .ok (.iload_n 1, 1) := by decide +kernel
theorem dX11_chosen_2 : decode cX11_chosen 2 = .ok (.invokevirtual 284, 3) := by decide +kernel
theorem dX11_chosen_5 : decode cX11_chosen 5 = .ok (.ifCond .ne 5, 3) := by decide +kernel
theorem dX11_chosen_8 : decode cX11_chosen 8 = .ok (.lconst 0, 1) := by decide +kernel
theorem dX11_chosen_9 : decode cX11_chosen 9 = .ok (.lreturn, 1) := by decide +kernel
theorem dX11_chosen_10 : decode cX11_chosen 10 = .ok (.iconst 0, 1) := by decide +kernel
theorem dX11_chosen_11 : decode cX11_chosen 11 = .ok (.istore 5, 2) := by decide +kernel
theorem dX11_chosen_13 : decode cX11_chosen 13 = .ok (.iconst 0, 1) := by decide +kernel
theorem dX11_chosen_14 : decode cX11_chosen 14 = .ok (.istore 6, 2) := by decide +kernel
theorem dX11_chosen_16 : decode cX11_chosen 16 = .ok (.iload 6, 2) := by decide +kernel
theorem dX11_chosen_18 : decode cX11_chosen 18 = .ok (.bipush 32, 2) := by decide +kernel
theorem dX11_chosen_20 : decode cX11_chosen 20 = .ok (.if_icmp .ge 20, 3) := by decide +kernel
theorem dX11_chosen_23 : decode cX11_chosen 23 = .ok (.iload 5, 2) := by decide +kernel
theorem dX11_chosen_25 : decode cX11_chosen 25 = .ok (.iload_n 2, 1) := by decide +kernel
theorem dX11_chosen_26 : decode cX11_chosen 26 = .ok (.iload 6, 2) := by decide +kernel
theorem dX11_chosen_28 : decode cX11_chosen 28 = .ok (.iushr, 1) := by decide +kernel
theorem dX11_chosen_29 : decode cX11_chosen 29 = .ok (.iconst 1, 1) := by decide +kernel
theorem dX11_chosen_30 : decode cX11_chosen 30 = .ok (.iand, 1) := by decide +kernel
theorem dX11_chosen_31 : decode cX11_chosen 31 = .ok (.iadd, 1) := by decide +kernel
theorem dX11_chosen_32 : decode cX11_chosen 32 = .ok (.istore 5, 2) := by decide +kernel
theorem dX11_chosen_34 : decode cX11_chosen 34 = .ok (.iinc 6 1, 3) := by decide +kernel
theorem dX11_chosen_37 : decode cX11_chosen 37 = .ok (.goto (-21), 3) := by decide +kernel
theorem dX11_chosen_40 : decode cX11_chosen 40 = .ok (.aload_n 0, 1) := by decide +kernel
theorem dX11_chosen_41 : decode cX11_chosen 41 = .ok (.iload_n 2, 1) := by decide +kernel
theorem dX11_chosen_42 : decode cX11_chosen 42 = .ok (.ifCond .lt 47, 3) := by decide +kernel
theorem dX11_chosen_45 : decode cX11_chosen 45 = .ok (.iload_n 2, 1) := by decide +kernel
theorem dX11_chosen_46 : decode cX11_chosen 46 = .ok (.iconst 1, 1) := by decide +kernel
theorem dX11_chosen_47 : decode cX11_chosen 47 = .ok (.aload_n 0, 1) := by decide +kernel
theorem dX11_chosen_48 : decode cX11_chosen 48 = .ok (.getfield 55, 3) := by decide +kernel
theorem dX11_chosen_51 : decode cX11_chosen 51 = .ok (.iload_n 1, 1) := by decide +kernel
theorem dX11_chosen_52 : decode cX11_chosen 52 = .ok (.iaload, 1) := by decide +kernel
theorem dX11_chosen_53 : decode cX11_chosen 53 = .ok (.ishl, 1) := by decide +kernel
theorem dX11_chosen_54 : decode cX11_chosen 54 = .ok (.if_icmp .ge 35, 3) := by decide +kernel
theorem dX11_chosen_57 : decode cX11_chosen 57 = .ok (.iload 5, 2) := by decide +kernel
theorem dX11_chosen_59 : decode cX11_chosen 59 = .ok (.iconst 1, 1) := by decide +kernel
theorem dX11_chosen_60 : decode cX11_chosen 60 = .ok (.iconst 5, 1) := by decide +kernel
theorem dX11_chosen_61 : decode cX11_chosen 61 = .ok (.invokestatic 276, 3) := by decide +kernel
theorem dX11_chosen_64 : decode cX11_chosen 64 = .ok (.ifCond .eq 25, 3) := by decide +kernel
theorem dX11_chosen_67 : decode cX11_chosen 67 = .ok (.iload_n 3, 1) := by decide +kernel
theorem dX11_chosen_68 : decode cX11_chosen 68 = .ok (.iconst 1, 1) := by decide +kernel
theorem dX11_chosen_69 : decode cX11_chosen 69 = .ok (.sipush 5000, 3) := by decide +kernel
theorem dX11_chosen_72 : decode cX11_chosen 72 = .ok (.invokestatic 276, 3) := by decide +kernel
theorem dX11_chosen_75 : decode cX11_chosen 75 = .ok (.ifCond .eq 14, 3) := by decide +kernel
theorem dX11_chosen_78 : decode cX11_chosen 78 = .ok (.iload 4, 2) := by decide +kernel
theorem dX11_chosen_80 : decode cX11_chosen 80 = .ok (.iconst (-1), 1) := by decide +kernel
theorem dX11_chosen_81 : decode cX11_chosen 81 = .ok (.bipush 19, 2) := by decide +kernel
theorem dX11_chosen_83 : decode cX11_chosen 83 = .ok (.invokestatic 276, 3) := by decide +kernel
theorem dX11_chosen_86 : decode cX11_chosen 86 = .ok (.ifCond .ne 7, 3) := by decide +kernel
theorem dX11_chosen_89 : decode cX11_chosen 89 = .ok (.iconst 1, 1) := by decide +kernel
theorem dX11_chosen_90 : decode cX11_chosen 90 = .ok (.goto 4, 3) := by decide +kernel
theorem dX11_chosen_93 : decode cX11_chosen 93 = .ok (.iconst 0, 1) := by decide +kernel
theorem dX11_chosen_94 : decode cX11_chosen 94 = .ok (.iconst 2, 1) := by decide +kernel
theorem dX11_chosen_95 : decode cX11_chosen 95 = .ok (.invokevirtual 280, 3) := by decide +kernel
theorem dX11_chosen_98 : decode cX11_chosen 98 = .ok (.ifCond .eq 5, 3) := by decide +kernel
theorem dX11_chosen_101 : decode cX11_chosen 101 = .ok (.lconst 0, 1) := by decide +kernel
theorem dX11_chosen_102 : decode cX11_chosen 102 = .ok (.lreturn, 1) := by decide +kernel
theorem dX11_chosen_103 : decode cX11_chosen 103 = .ok (.iconst 0, 1) := by decide +kernel
theorem dX11_chosen_104 : decode cX11_chosen 104 = .ok (.istore 5, 2) := by decide +kernel
theorem dX11_chosen_106 : decode cX11_chosen 106 = .ok (.iconst 0, 1) := by decide +kernel
theorem dX11_chosen_107 : decode cX11_chosen 107 = .ok (.istore 6, 2) := by decide +kernel
theorem dX11_chosen_109 : decode cX11_chosen 109 = .ok (.iload 6, 2) := by decide +kernel
theorem dX11_chosen_111 : decode cX11_chosen 111 = .ok (.aload_n 0, 1) := by decide +kernel
theorem dX11_chosen_112 : decode cX11_chosen 112 = .ok (.getfield 55, 3) := by decide +kernel
theorem dX11_chosen_115 : decode cX11_chosen 115 = .ok (.iload_n 1, 1) := by decide +kernel
theorem dX11_chosen_116 : decode cX11_chosen 116 = .ok (.iaload, 1) := by decide +kernel
theorem dX11_chosen_117 : decode cX11_chosen 117 = .ok (.if_icmp .ge 33, 3) := by decide +kernel
theorem dX11_chosen_120 : decode cX11_chosen 120 = .ok (.iload_n 2, 1) := by decide +kernel
theorem dX11_chosen_121 : decode cX11_chosen 121 = .ok (.iload 6, 2) := by decide +kernel
theorem dX11_chosen_123 : decode cX11_chosen 123 = .ok (.ishr, 1) := by decide +kernel
theorem dX11_chosen_124 : decode cX11_chosen 124 = .ok (.iconst 1, 1) := by decide +kernel
theorem dX11_chosen_125 : decode cX11_chosen 125 = .ok (.iand, 1) := by decide +kernel
theorem dX11_chosen_126 : decode cX11_chosen 126 = .ok (.ifCond .ne 6, 3) := by decide +kernel
theorem dX11_chosen_129 : decode cX11_chosen 129 = .ok (.goto 15, 3) := by decide +kernel
theorem dX11_chosen_132 : decode cX11_chosen 132 = .ok (.aload_n 0, 1) := by decide +kernel
theorem dX11_chosen_133 : decode cX11_chosen 133 = .ok (.getfield 136, 3) := by decide +kernel
theorem dX11_chosen_136 : decode cX11_chosen 136 = .ok (.iload 5, 2) := by decide +kernel
theorem dX11_chosen_138 : decode cX11_chosen 138 = .ok (.iload 6, 2) := by decide +kernel
theorem dX11_chosen_140 : decode cX11_chosen 140 = .ok (.iastore, 1) := by decide +kernel
theorem dX11_chosen_141 : decode cX11_chosen 141 = .ok (.iinc 5 1, 3) := by decide +kernel
theorem dX11_chosen_144 : decode cX11_chosen 144 = .ok (.iinc 6 1, 3) := by decide +kernel
theorem dX11_chosen_147 : decode cX11_chosen 147 = .ok (.goto (-38), 3) := by decide +kernel
theorem dX11_chosen_150 : decode cX11_chosen 150 = .ok (.aload_n 0, 1) := by decide +kernel
theorem dX11_chosen_151 : decode cX11_chosen 151 = .ok (.ldc2_w 384, 3) := by decide +kernel
theorem dX11_chosen_154 : decode cX11_chosen 154 = .ok (.putfield 386, 3) := by decide +kernel
theorem dX11_chosen_157 : decode cX11_chosen 157 = .ok (.aload_n 0, 1) := by decide +kernel
theorem dX11_chosen_158 : decode cX11_chosen 158 = .ok (.iload_n 1, 1) := by decide +kernel
theorem dX11_chosen_159 : decode cX11_chosen 159 = .ok (.iconst 0, 1) := by decide +kernel
theorem dX11_chosen_160 : decode cX11_chosen 160 = .ok (.iload 5, 2) := by decide +kernel
theorem dX11_chosen_162 : decode cX11_chosen 162 = .ok (.iload_n 3, 1) := by decide +kernel
theorem dX11_chosen_163 : decode cX11_chosen 163 = .ok (.lconst 0, 1) := by decide +kernel
theorem dX11_chosen_164 : decode cX11_chosen 164 = .ok (.invokevirtual 390, 3) := by decide +kernel
theorem dX11_chosen_167 : decode cX11_chosen 167 = .ok (.aload_n 0, 1) := by decide +kernel
theorem dX11_chosen_168 : decode cX11_chosen 168 = .ok (.getfield 386, 3) := by decide +kernel
theorem dX11_chosen_171 : decode cX11_chosen 171 = .ok (.lconst 0, 1) := by decide +kernel
theorem dX11_chosen_172 : decode cX11_chosen 172 = .ok (.lcmp, 1) := by decide +kernel
theorem dX11_chosen_173 : decode cX11_chosen 173 = .ok (.ifCond .ge 7, 3) := by decide +kernel
theorem dX11_chosen_176 : decode cX11_chosen 176 = .ok (.ldc2_w 394, 3) := by decide +kernel
theorem dX11_chosen_179 : decode cX11_chosen 179 = .ok (.lreturn, 1) := by decide +kernel
theorem dX11_chosen_180 : decode cX11_chosen 180 = .ok (.iload 4, 2) := by decide +kernel
theorem dX11_chosen_182 : decode cX11_chosen 182 = .ok (.ifCond .ge 8, 3) := by decide +kernel
theorem dX11_chosen_185 : decode cX11_chosen 185 = .ok (.aload_n 0, 1) := by decide +kernel
theorem dX11_chosen_186 : decode cX11_chosen 186 = .ok (.getfield 386, 3) := by decide +kernel
theorem dX11_chosen_189 : decode cX11_chosen 189 = .ok (.lreturn, 1) := by decide +kernel
theorem dX11_chosen_190 : decode cX11_chosen 190 = .ok (.iconst 0, 1) := by decide +kernel
theorem dX11_chosen_191 : decode cX11_chosen 191 = .ok (.istore 6, 2) := by decide +kernel
theorem dX11_chosen_193 : decode cX11_chosen 193 = .ok (.iload 6, 2) := by decide +kernel
theorem dX11_chosen_195 : decode cX11_chosen 195 = .ok (.iload 5, 2) := by decide +kernel
theorem dX11_chosen_197 : decode cX11_chosen 197 = .ok (.if_icmp .ge 30, 3) := by decide +kernel
theorem dX11_chosen_200 : decode cX11_chosen 200 = .ok (.aload_n 0, 1) := by decide +kernel
theorem dX11_chosen_201 : decode cX11_chosen 201 = .ok (.getfield 136, 3) := by decide +kernel
theorem dX11_chosen_204 : decode cX11_chosen 204 = .ok (.iload 6, 2) := by decide +kernel
theorem dX11_chosen_206 : decode cX11_chosen 206 = .ok (.iaload, 1) := by decide +kernel
theorem dX11_chosen_207 : decode cX11_chosen 207 = .ok (.iload 4, 2) := by decide +kernel
theorem dX11_chosen_209 : decode cX11_chosen 209 = .ok (.if_icmp .ne 12, 3) := by decide +kernel
theorem dX11_chosen_212 : decode cX11_chosen 212 = .ok (.aload_n 0, 1) := by decide +kernel
theorem dX11_chosen_213 : decode cX11_chosen 213 = .ok (.getfield 142, 3) := by decide +kernel
theorem dX11_chosen_216 : decode cX11_chosen 216 = .ok (.iload 6, 2) := by decide +kernel
theorem dX11_chosen_218 : decode cX11_chosen 218 = .ok (.iaload, 1) := by decide +kernel
theorem dX11_chosen_219 : decode cX11_chosen 219 = .ok (.i2l, 1) := by decide +kernel
theorem dX11_chosen_220 : decode cX11_chosen 220 = .ok (.lreturn, 1) := by decide +kernel
theorem dX11_chosen_221 : decode cX11_chosen 221 = .ok (.iinc 6 1, 3) := by decide +kernel
theorem dX11_chosen_224 : decode cX11_chosen 224 = .ok (.goto (-31), 3) := by decide +kernel
theorem dX11_chosen_227 : decode cX11_chosen 227 = .ok (.ldc2_w 384, 3) := by decide +kernel
theorem dX11_chosen_230 : decode cX11_chosen 230 = .ok (.lreturn, 1) := by decide +kernel
theorem dX11_byteOf_0 : decode cX11_byteOf 0 = .ok (.iload_n 2, 1) := by decide +kernel
theorem dX11_byteOf_1 : decode cX11_byteOf 1 = .ok (.aload_n 0, 1) := by decide +kernel
theorem dX11_byteOf_2 : decode cX11_byteOf 2 = .ok (.getfield 20, 3) := by decide +kernel
theorem dX11_byteOf_5 : decode cX11_byteOf 5 = .ok (.iload_n 1, 1) := by decide +kernel
theorem dX11_byteOf_6 : decode cX11_byteOf 6 = .ok (.iaload, 1) := by decide +kernel
theorem dX11_byteOf_7 : decode cX11_byteOf 7 = .ok (.if_icmp .ge 22, 3) := by decide +kernel
theorem dX11_byteOf_10 : decode cX11_byteOf 10 = .ok (.aload_n 0, 1) := by decide +kernel
theorem dX11_byteOf_11 : decode cX11_byteOf 11 = .ok (.getfield 17, 3) := by decide +kernel
theorem dX11_byteOf_14 : decode cX11_byteOf 14 = .ok (.sipush 400, 3) := by decide +kernel
theorem dX11_byteOf_17 : decode cX11_byteOf 17 = .ok (.iload_n 1, 1) := by decide +kernel
theorem dX11_byteOf_18 : decode cX11_byteOf 18 = .ok (.imul, 1) := by decide +kernel
theorem dX11_byteOf_19 : decode cX11_byteOf 19 = .ok (.iload_n 2, 1) := by decide +kernel
theorem dX11_byteOf_20 : decode cX11_byteOf 20 = .ok (.iadd, 1) := by decide +kernel
theorem dX11_byteOf_21 : decode cX11_byteOf 21 = .ok (.baload, 1) := by decide +kernel
theorem dX11_byteOf_22 : decode cX11_byteOf 22 = .ok (.sipush 255, 3) := by decide +kernel
theorem dX11_byteOf_25 : decode cX11_byteOf 25 = .ok (.iand, 1) := by decide +kernel
theorem dX11_byteOf_26 : decode cX11_byteOf 26 = .ok (.goto 4, 3) := by decide +kernel
theorem dX11_byteOf_29 : decode cX11_byteOf 29 = .ok (.iconst 0, 1) := by decide +kernel
theorem dX11_byteOf_30 : decode cX11_byteOf 30 = .ok (.ireturn, 1) := by decide +kernel
theorem dX11_next_0 : decode cX11_next 0 = .ok (.aload_n 0, 1) := by decide +kernel
theorem dX11_next_1 : decode cX11_next 1 = .ok (.iload_n 1, 1) := by decide +kernel
theorem dX11_next_2 : decode cX11_next 2 = .ok (.aload_n 0, 1) := by decide +kernel
theorem dX11_next_3 : decode cX11_next 3 = .ok (.getfield 396, 3) := by decide +kernel
theorem dX11_next_6 : decode cX11_next 6 = .ok (.invokevirtual 399, 3) := by decide +kernel
theorem dX11_next_9 : decode cX11_next 9 = .ok (.bipush 32, 2) := by decide +kernel
theorem dX11_next_11 : decode cX11_next 11 = .ok (.if_icmp .ne 16, 3) := by decide +kernel
theorem dX11_next_14 : decode cX11_next 14 = .ok (.aload_n 0, 1) := by decide +kernel
theorem dX11_next_15 : decode cX11_next 15 = .ok (.dup, 1) := by decide +kernel
theorem dX11_next_16 : decode cX11_next 16 = .ok (.getfield 396, 3) := by decide +kernel
theorem dX11_next_19 : decode cX11_next 19 = .ok (.iconst 1, 1) := by decide +kernel
theorem dX11_next_20 : decode cX11_next 20 = .ok (.iadd, 1) := by decide +kernel
theorem dX11_next_21 : decode cX11_next 21 = .ok (.putfield 396, 3) := by decide +kernel
theorem dX11_next_24 : decode cX11_next 24 = .ok (.goto (-24), 3) := by decide +kernel
theorem dX11_next_27 : decode cX11_next 27 = .ok (.aload_n 0, 1) := by decide +kernel
theorem dX11_next_28 : decode cX11_next 28 = .ok (.iload_n 1, 1) := by decide +kernel
theorem dX11_next_29 : decode cX11_next 29 = .ok (.aload_n 0, 1) := by decide +kernel
theorem dX11_next_30 : decode cX11_next 30 = .ok (.getfield 396, 3) := by decide +kernel
theorem dX11_next_33 : decode cX11_next 33 = .ok (.invokevirtual 399, 3) := by decide +kernel
theorem dX11_next_36 : decode cX11_next 36 = .ok (.ireturn, 1) := by decide +kernel
theorem dX11_eats_0 : decode cX11_eats 0 = .ok (.aload_n 0, 1) := by decide +kernel
theorem dX11_eats_1 : decode cX11_eats 1 = .ok (.iload_n 1, 1) := by decide +kernel
theorem dX11_eats_2 : decode cX11_eats 2 = .ok (.invokevirtual 402, 3) := by decide +kernel
theorem dX11_eats_5 : decode cX11_eats 5 = .ok (.iload_n 2, 1) := by decide +kernel
theorem dX11_eats_6 : decode cX11_eats 6 = .ok (.if_icmp .ne 7, 3) := by decide +kernel
theorem dX11_eats_9 : decode cX11_eats 9 = .ok (.iconst 1, 1) := by decide +kernel
theorem dX11_eats_10 : decode cX11_eats 10 = .ok (.goto 4, 3) := by decide +kernel
theorem dX11_eats_13 : decode cX11_eats 13 = .ok (.iconst 0, 1) := by decide +kernel
theorem dX11_eats_14 : decode cX11_eats 14 = .ok (.istore_n 3, 1) := by decide +kernel
theorem dX11_eats_15 : decode cX11_eats 15 = .ok (.iload_n 3, 1) := by decide +kernel
theorem dX11_eats_16 : decode cX11_eats 16 = .ok (.ifCond .eq 13, 3) := by decide +kernel
theorem dX11_eats_19 : decode cX11_eats 19 = .ok (.aload_n 0, 1) := by decide +kernel
theorem dX11_eats_20 : decode cX11_eats 20 = .ok (.dup, 1) := by decide +kernel
theorem dX11_eats_21 : decode cX11_eats 21 = .ok (.getfield 396, 3) := by decide +kernel
theorem dX11_eats_24 : decode cX11_eats 24 = .ok (.iconst 1, 1) := by decide +kernel
theorem dX11_eats_25 : decode cX11_eats 25 = .ok (.iadd, 1) := by decide +kernel
theorem dX11_eats_26 : decode cX11_eats 26 = .ok (.putfield 396, 3) := by decide +kernel
theorem dX11_eats_29 : decode cX11_eats 29 = .ok (.iload_n 3, 1) := by decide +kernel
theorem dX11_eats_30 : decode cX11_eats 30 = .ok (.ireturn, 1) := by decide +kernel
theorem dX11_numbers_0 : decode cX11_numbers 0 = .ok (.aload_n 0, 1) := by decide +kernel
theorem dX11_numbers_1 : decode cX11_numbers 1 = .ok (.iload_n 1, 1) := by decide +kernel
theorem dX11_numbers_2 : decode cX11_numbers 2 = .ok (.invokevirtual 402, 3) := by decide +kernel
theorem dX11_numbers_5 : decode cX11_numbers 5 = .ok (.invokestatic 221, 3) := by decide +kernel
theorem dX11_numbers_8 : decode cX11_numbers 8 = .ok (.istore_n 2, 1) := by decide +kernel
theorem dX11_numbers_9 : decode cX11_numbers 9 = .ok (.aload_n 0, 1) := by decide +kernel
theorem dX11_numbers_10 : decode cX11_numbers 10 = .ok (.iload_n 1, 1) := by decide +kernel
theorem dX11_numbers_11 : decode cX11_numbers 11 = .ok (.aload_n 0, 1) := by decide +kernel
theorem dX11_numbers_12 : decode cX11_numbers 12 = .ok (.getfield 396, 3) := by decide +kernel
theorem dX11_numbers_15 : decode cX11_numbers 15 = .ok (.invokevirtual 399, 3) := by decide +kernel
theorem dX11_numbers_18 : decode cX11_numbers 18 = .ok (.invokestatic 221, 3) := by decide +kernel
theorem dX11_numbers_21 : decode cX11_numbers 21 = .ok (.ifCond .eq 16, 3) := by decide +kernel
theorem dX11_numbers_24 : decode cX11_numbers 24 = .ok (.aload_n 0, 1) := by decide +kernel
theorem dX11_numbers_25 : decode cX11_numbers 25 = .ok (.dup, 1) := by decide +kernel
theorem dX11_numbers_26 : decode cX11_numbers 26 = .ok (.getfield 396, 3) := by decide +kernel
theorem dX11_numbers_29 : decode cX11_numbers 29 = .ok (.iconst 1, 1) := by decide +kernel
theorem dX11_numbers_30 : decode cX11_numbers 30 = .ok (.iadd, 1) := by decide +kernel
theorem dX11_numbers_31 : decode cX11_numbers 31 = .ok (.putfield 396, 3) := by decide +kernel
theorem dX11_numbers_34 : decode cX11_numbers 34 = .ok (.goto (-25), 3) := by decide +kernel
theorem dX11_numbers_37 : decode cX11_numbers 37 = .ok (.iload_n 2, 1) := by decide +kernel
theorem dX11_numbers_38 : decode cX11_numbers 38 = .ok (.ireturn, 1) := by decide +kernel
theorem dX11_isPart_0 : decode cX11_isPart 0 = .ok (.aload_n 0, 1) := by decide +kernel
theorem dX11_isPart_1 : decode cX11_isPart 1 = .ok (.iload_n 1, 1) := by decide +kernel
theorem dX11_isPart_2 : decode cX11_isPart 2 = .ok (.invokevirtual 405, 3) := by decide +kernel
theorem dX11_isPart_5 : decode cX11_isPart 5 = .ok (.ifCond .eq 15, 3) := by decide +kernel
theorem dX11_isPart_8 : decode cX11_isPart 8 = .ok (.aload_n 0, 1) := by decide +kernel
theorem dX11_isPart_9 : decode cX11_isPart 9 = .ok (.iload_n 1, 1) := by decide +kernel
theorem dX11_isPart_10 : decode cX11_isPart 10 = .ok (.bipush 42, 2) := by decide +kernel
theorem dX11_isPart_12 : decode cX11_isPart 12 = .ok (.invokevirtual 408, 3) := by decide +kernel
theorem dX11_isPart_15 : decode cX11_isPart 15 = .ok (.ifCond .ne 5, 3) := by decide +kernel
theorem dX11_isPart_18 : decode cX11_isPart 18 = .ok (.iconst 0, 1) := by decide +kernel
theorem dX11_isPart_19 : decode cX11_isPart 19 = .ok (.ireturn, 1) := by decide +kernel
theorem dX11_isPart_20 : decode cX11_isPart 20 = .ok (.aload_n 0, 1) := by decide +kernel
theorem dX11_isPart_21 : decode cX11_isPart 21 = .ok (.iload_n 1, 1) := by decide +kernel
theorem dX11_isPart_22 : decode cX11_isPart 22 = .ok (.bipush 109, 2) := by decide +kernel
theorem dX11_isPart_24 : decode cX11_isPart 24 = .ok (.invokevirtual 408, 3) := by decide +kernel
theorem dX11_isPart_27 : decode cX11_isPart 27 = .ok (.ifCond .eq 35, 3) := by decide +kernel
theorem dX11_isPart_30 : decode cX11_isPart 30 = .ok (.aload_n 0, 1) := by decide +kernel
theorem dX11_isPart_31 : decode cX11_isPart 31 = .ok (.iload_n 1, 1) := by decide +kernel
theorem dX11_isPart_32 : decode cX11_isPart 32 = .ok (.bipush 91, 2) := by decide +kernel
theorem dX11_isPart_34 : decode cX11_isPart 34 = .ok (.invokevirtual 408, 3) := by decide +kernel
theorem dX11_isPart_37 : decode cX11_isPart 37 = .ok (.ifCond .eq 25, 3) := by decide +kernel
theorem dX11_isPart_40 : decode cX11_isPart 40 = .ok (.aload_n 0, 1) := by decide +kernel
theorem dX11_isPart_41 : decode cX11_isPart 41 = .ok (.iload_n 1, 1) := by decide +kernel
theorem dX11_isPart_42 : decode cX11_isPart 42 = .ok (.invokevirtual 405, 3) := by decide +kernel
theorem dX11_isPart_45 : decode cX11_isPart 45 = .ok (.ifCond .eq 17, 3) := by decide +kernel
theorem dX11_isPart_48 : decode cX11_isPart 48 = .ok (.aload_n 0, 1) := by decide +kernel
theorem dX11_isPart_49 : decode cX11_isPart 49 = .ok (.iload_n 1, 1) := by decide +kernel
theorem dX11_isPart_50 : decode cX11_isPart 50 = .ok (.bipush 93, 2) := by decide +kernel
theorem dX11_isPart_52 : decode cX11_isPart 52 = .ok (.invokevirtual 408, 3) := by decide +kernel
theorem dX11_isPart_55 : decode cX11_isPart 55 = .ok (.ifCond .eq 7, 3) := by decide +kernel
theorem dX11_isPart_58 : decode cX11_isPart 58 = .ok (.iconst 1, 1) := by decide +kernel
theorem dX11_isPart_59 : decode cX11_isPart 59 = .ok (.goto 4, 3) := by decide +kernel
theorem dX11_isPart_62 : decode cX11_isPart 62 = .ok (.iconst 0, 1) := by decide +kernel
theorem dX11_isPart_63 : decode cX11_isPart 63 = .ok (.ireturn, 1) := by decide +kernel
theorem dX11_isOut_0 : decode cX11_isOut 0 = .ok (.aload_n 0, 1) := by decide +kernel
theorem dX11_isOut_1 : decode cX11_isOut 1 = .ok (.iload_n 1, 1) := by decide +kernel
theorem dX11_isOut_2 : decode cX11_isOut 2 = .ok (.invokevirtual 402, 3) := by decide +kernel
theorem dX11_isOut_5 : decode cX11_isOut 5 = .ok (.pop, 1) := by decide +kernel
theorem dX11_isOut_6 : decode cX11_isOut 6 = .ok (.ldc 246, 2) := by decide +kernel
theorem dX11_isOut_8 : decode cX11_isOut 8 = .ok (.astore_n 2, 1) := by decide +kernel
theorem dX11_isOut_9 : decode cX11_isOut 9 = .ok (.iconst 0, 1) := by decide +kernel
theorem dX11_isOut_10 : decode cX11_isOut 10 = .ok (.istore_n 3, 1) := by decide +kernel
theorem dX11_isOut_11 : decode cX11_isOut 11 = .ok (.iload_n 3, 1) := by decide +kernel
theorem dX11_isOut_12 : decode cX11_isOut 12 = .ok (.iconst 3, 1) := by decide +kernel
theorem dX11_isOut_13 : decode cX11_isOut 13 = .ok (.if_icmp .ge 30, 3) := by decide +kernel
theorem dX11_isOut_16 : decode cX11_isOut 16 = .ok (.aload_n 0, 1) := by decide +kernel
theorem dX11_isOut_17 : decode cX11_isOut 17 = .ok (.iload_n 1, 1) := by decide +kernel
theorem dX11_isOut_18 : decode cX11_isOut 18 = .ok (.aload_n 0, 1) := by decide +kernel
theorem dX11_isOut_19 : decode cX11_isOut 19 = .ok (.getfield 396, 3) := by decide +kernel
theorem dX11_isOut_22 : decode cX11_isOut 22 = .ok (.iload_n 3, 1) := by decide +kernel
theorem dX11_isOut_23 : decode cX11_isOut 23 = .ok (.iadd, 1) := by decide +kernel
theorem dX11_isOut_24 : decode cX11_isOut 24 = .ok (.invokevirtual 399, 3) := by decide +kernel
theorem dX11_isOut_27 : decode cX11_isOut 27 = .ok (.aload_n 2, 1) := by decide +kernel
theorem dX11_isOut_28 : decode cX11_isOut 28 = .ok (.iload_n 3, 1) := by decide +kernel
theorem dX11_isOut_29 : decode cX11_isOut 29 = .ok (.invokevirtual 179, 3) := by decide +kernel
theorem dX11_isOut_32 : decode cX11_isOut 32 = .ok (.if_icmp .eq 5, 3) := by decide +kernel
theorem dX11_isOut_35 : decode cX11_isOut 35 = .ok (.iconst 0, 1) := by decide +kernel
theorem dX11_isOut_36 : decode cX11_isOut 36 = .ok (.ireturn, 1) := by decide +kernel
theorem dX11_isOut_37 : decode cX11_isOut 37 = .ok (.iinc 3 1, 3) := by decide +kernel
theorem dX11_isOut_40 : decode cX11_isOut 40 = .ok (.goto (-29), 3) := by decide +kernel
theorem dX11_isOut_43 : decode cX11_isOut 43 = .ok (.aload_n 0, 1) := by decide +kernel
theorem dX11_isOut_44 : decode cX11_isOut 44 = .ok (.iload_n 1, 1) := by decide +kernel
theorem dX11_isOut_45 : decode cX11_isOut 45 = .ok (.aload_n 0, 1) := by decide +kernel
theorem dX11_isOut_46 : decode cX11_isOut 46 = .ok (.getfield 396, 3) := by decide +kernel
theorem dX11_isOut_49 : decode cX11_isOut 49 = .ok (.iconst 3, 1) := by decide +kernel
theorem dX11_isOut_50 : decode cX11_isOut 50 = .ok (.iadd, 1) := by decide +kernel
theorem dX11_isOut_51 : decode cX11_isOut 51 = .ok (.invokevirtual 399, 3) := by decide +kernel
theorem dX11_isOut_54 : decode cX11_isOut 54 = .ok (.invokestatic 183, 3) := by decide +kernel
theorem dX11_isOut_57 : decode cX11_isOut 57 = .ok (.ifCond .eq 5, 3) := by decide +kernel
theorem dX11_isOut_60 : decode cX11_isOut 60 = .ok (.iconst 0, 1) := by decide +kernel
theorem dX11_isOut_61 : decode cX11_isOut 61 = .ok (.ireturn, 1) := by decide +kernel
theorem dX11_isOut_62 : decode cX11_isOut 62 = .ok (.aload_n 0, 1) := by decide +kernel
theorem dX11_isOut_63 : decode cX11_isOut 63 = .ok (.dup, 1) := by decide +kernel
theorem dX11_isOut_64 : decode cX11_isOut 64 = .ok (.getfield 396, 3) := by decide +kernel
theorem dX11_isOut_67 : decode cX11_isOut 67 = .ok (.iconst 3, 1) := by decide +kernel
theorem dX11_isOut_68 : decode cX11_isOut 68 = .ok (.iadd, 1) := by decide +kernel
theorem dX11_isOut_69 : decode cX11_isOut 69 = .ok (.putfield 396, 3) := by decide +kernel
theorem dX11_isOut_72 : decode cX11_isOut 72 = .ok (.iconst 1, 1) := by decide +kernel
theorem dX11_isOut_73 : decode cX11_isOut 73 = .ok (.ireturn, 1) := by decide +kernel
theorem dX11_isLine_0 : decode cX11_isLine 0 = .ok (.aload_n 0, 1) := by decide +kernel
theorem dX11_isLine_1 : decode cX11_isLine 1 = .ok (.iload_n 1, 1) := by decide +kernel
theorem dX11_isLine_2 : decode cX11_isLine 2 = .ok (.invokevirtual 411, 3) := by decide +kernel
theorem dX11_isLine_5 : decode cX11_isLine 5 = .ok (.ifCond .eq 11, 3) := by decide +kernel
theorem dX11_isLine_8 : decode cX11_isLine 8 = .ok (.aload_n 0, 1) := by decide +kernel
theorem dX11_isLine_9 : decode cX11_isLine 9 = .ok (.iload_n 1, 1) := by decide +kernel
theorem dX11_isLine_10 : decode cX11_isLine 10 = .ok (.invokevirtual 414, 3) := by decide +kernel
theorem dX11_isLine_13 : decode cX11_isLine 13 = .ok (.ifCond .ne 5, 3) := by decide +kernel
theorem dX11_isLine_16 : decode cX11_isLine 16 = .ok (.iconst 0, 1) := by decide +kernel
theorem dX11_isLine_17 : decode cX11_isLine 17 = .ok (.ireturn, 1) := by decide +kernel
theorem dX11_isLine_18 : decode cX11_isLine 18 = .ok (.aload_n 0, 1) := by decide +kernel
theorem dX11_isLine_19 : decode cX11_isLine 19 = .ok (.iload_n 1, 1) := by decide +kernel
theorem dX11_isLine_20 : decode cX11_isLine 20 = .ok (.invokevirtual 402, 3) := by decide +kernel
theorem dX11_isLine_23 : decode cX11_isLine 23 = .ok (.bipush 43, 2) := by decide +kernel
theorem dX11_isLine_25 : decode cX11_isLine 25 = .ok (.if_icmp .eq 13, 3) := by decide +kernel
theorem dX11_isLine_28 : decode cX11_isLine 28 = .ok (.aload_n 0, 1) := by decide +kernel
theorem dX11_isLine_29 : decode cX11_isLine 29 = .ok (.iload_n 1, 1) := by decide +kernel
theorem dX11_isLine_30 : decode cX11_isLine 30 = .ok (.invokevirtual 402, 3) := by decide +kernel
theorem dX11_isLine_33 : decode cX11_isLine 33 = .ok (.bipush 45, 2) := by decide +kernel
theorem dX11_isLine_35 : decode cX11_isLine 35 = .ok (.if_icmp .ne 23, 3) := by decide +kernel
theorem dX11_isLine_38 : decode cX11_isLine 38 = .ok (.aload_n 0, 1) := by decide +kernel
theorem dX11_isLine_39 : decode cX11_isLine 39 = .ok (.dup, 1) := by decide +kernel
theorem dX11_isLine_40 : decode cX11_isLine 40 = .ok (.getfield 396, 3) := by decide +kernel
theorem dX11_isLine_43 : decode cX11_isLine 43 = .ok (.iconst 1, 1) := by decide +kernel
theorem dX11_isLine_44 : decode cX11_isLine 44 = .ok (.iadd, 1) := by decide +kernel
theorem dX11_isLine_45 : decode cX11_isLine 45 = .ok (.putfield 396, 3) := by decide +kernel
theorem dX11_isLine_48 : decode cX11_isLine 48 = .ok (.aload_n 0, 1) := by decide +kernel
theorem dX11_isLine_49 : decode cX11_isLine 49 = .ok (.iload_n 1, 1) := by decide +kernel
theorem dX11_isLine_50 : decode cX11_isLine 50 = .ok (.invokevirtual 414, 3) := by decide +kernel
theorem dX11_isLine_53 : decode cX11_isLine 53 = .ok (.ifCond .ne (-35), 3) := by decide +kernel
theorem dX11_isLine_56 : decode cX11_isLine 56 = .ok (.iconst 0, 1) := by decide +kernel
theorem dX11_isLine_57 : decode cX11_isLine 57 = .ok (.ireturn, 1) := by decide +kernel
theorem dX11_isLine_58 : decode cX11_isLine 58 = .ok (.aload_n 0, 1) := by decide +kernel
theorem dX11_isLine_59 : decode cX11_isLine 59 = .ok (.iload_n 1, 1) := by decide +kernel
theorem dX11_isLine_60 : decode cX11_isLine 60 = .ok (.bipush 59, 2) := by decide +kernel
theorem dX11_isLine_62 : decode cX11_isLine 62 = .ok (.invokevirtual 408, 3) := by decide +kernel
theorem dX11_isLine_65 : decode cX11_isLine 65 = .ok (.ireturn, 1) := by decide +kernel
theorem dX11_linear_0 : decode cX11_linear 0 = .ok (.aload_n 0, 1) := by decide +kernel
theorem dX11_linear_1 : decode cX11_linear 1 = .ok (.iload_n 1, 1) := by decide +kernel
theorem dX11_linear_2 : decode cX11_linear 2 = .ok (.invokevirtual 284, 3) := by decide +kernel
theorem dX11_linear_5 : decode cX11_linear 5 = .ok (.ifCond .ne 5, 3) := by decide +kernel
theorem dX11_linear_8 : decode cX11_linear 8 = .ok (.iconst 0, 1) := by decide +kernel
theorem dX11_linear_9 : decode cX11_linear 9 = .ok (.ireturn, 1) := by decide +kernel
theorem dX11_linear_10 : decode cX11_linear 10 = .ok (.aload_n 0, 1) := by decide +kernel
theorem dX11_linear_11 : decode cX11_linear 11 = .ok (.iconst 0, 1) := by decide +kernel
theorem dX11_linear_12 : decode cX11_linear 12 = .ok (.putfield 396, 3) := by decide +kernel
theorem dX11_linear_15 : decode cX11_linear 15 = .ok (.aload_n 0, 1) := by decide +kernel
theorem dX11_linear_16 : decode cX11_linear 16 = .ok (.iload_n 1, 1) := by decide +kernel
theorem dX11_linear_17 : decode cX11_linear 17 = .ok (.invokevirtual 402, 3) := by decide +kernel
theorem dX11_linear_20 : decode cX11_linear 20 = .ok (.ifCond .ne 16, 3) := by decide +kernel
theorem dX11_linear_23 : decode cX11_linear 23 = .ok (.aload_n 0, 1) := by decide +kernel
theorem dX11_linear_24 : decode cX11_linear 24 = .ok (.getfield 396, 3) := by decide +kernel
theorem dX11_linear_27 : decode cX11_linear 27 = .ok (.aload_n 0, 1) := by decide +kernel
theorem dX11_linear_28 : decode cX11_linear 28 = .ok (.getfield 20, 3) := by decide +kernel
theorem dX11_linear_31 : decode cX11_linear 31 = .ok (.iload_n 1, 1) := by decide +kernel
theorem dX11_linear_32 : decode cX11_linear 32 = .ok (.iaload, 1) := by decide +kernel
theorem dX11_linear_33 : decode cX11_linear 33 = .ok (.if_icmp .ge 25, 3) := by decide +kernel
theorem dX11_linear_36 : decode cX11_linear 36 = .ok (.aload_n 0, 1) := by decide +kernel
theorem dX11_linear_37 : decode cX11_linear 37 = .ok (.iload_n 1, 1) := by decide +kernel
theorem dX11_linear_38 : decode cX11_linear 38 = .ok (.invokevirtual 417, 3) := by decide +kernel
theorem dX11_linear_41 : decode cX11_linear 41 = .ok (.ifCond .eq 6, 3) := by decide +kernel
theorem dX11_linear_44 : decode cX11_linear 44 = .ok (.goto (-29), 3) := by decide +kernel
theorem dX11_linear_47 : decode cX11_linear 47 = .ok (.aload_n 0, 1) := by decide +kernel
theorem dX11_linear_48 : decode cX11_linear 48 = .ok (.iload_n 1, 1) := by decide +kernel
theorem dX11_linear_49 : decode cX11_linear 49 = .ok (.invokevirtual 402, 3) := by decide +kernel
theorem dX11_linear_52 : decode cX11_linear 52 = .ok (.pop, 1) := by decide +kernel
theorem dX11_linear_53 : decode cX11_linear 53 = .ok (.aload_n 0, 1) := by decide +kernel
theorem dX11_linear_54 : decode cX11_linear 54 = .ok (.getfield 396, 3) := by decide +kernel
theorem dX11_linear_57 : decode cX11_linear 57 = .ok (.ireturn, 1) := by decide +kernel
theorem dX11_linear_58 : decode cX11_linear 58 = .ok (.iconst (-1), 1) := by decide +kernel
theorem dX11_linear_59 : decode cX11_linear 59 = .ok (.ireturn, 1) := by decide +kernel
theorem dX11_lot_0 : decode cX11_lot 0 = .ok (.aload_n 0, 1) := by decide +kernel
theorem dX11_lot_1 : decode cX11_lot 1 = .ok (.iload_n 1, 1) := by decide +kernel
theorem dX11_lot_2 : decode cX11_lot 2 = .ok (.invokevirtual 284, 3) := by decide +kernel
theorem dX11_lot_5 : decode cX11_lot 5 = .ok (.ifCond .eq 36, 3) := by decide +kernel
theorem dX11_lot_8 : decode cX11_lot 8 = .ok (.aload_n 0, 1) := by decide +kernel
theorem dX11_lot_9 : decode cX11_lot 9 = .ok (.iload_n 2, 1) := by decide +kernel
theorem dX11_lot_10 : decode cX11_lot 10 = .ok (.iconst 0, 1) := by decide +kernel
theorem dX11_lot_11 : decode cX11_lot 11 = .ok (.bipush 6, 2) := by decide +kernel
theorem dX11_lot_13 : decode cX11_lot 13 = .ok (.invokestatic 276, 3) := by decide +kernel
theorem dX11_lot_16 : decode cX11_lot 16 = .ok (.ifCond .eq 13, 3) := by decide +kernel
theorem dX11_lot_19 : decode cX11_lot 19 = .ok (.iload_n 3, 1) := by decide +kernel
theorem dX11_lot_20 : decode cX11_lot 20 = .ok (.iconst 0, 1) := by decide +kernel
theorem dX11_lot_21 : decode cX11_lot 21 = .ok (.bipush 63, 2) := by decide +kernel
theorem dX11_lot_23 : decode cX11_lot 23 = .ok (.invokestatic 276, 3) := by decide +kernel
theorem dX11_lot_26 : decode cX11_lot 26 = .ok (.ifCond .ne 7, 3) := by decide +kernel
theorem dX11_lot_29 : decode cX11_lot 29 = .ok (.iconst 1, 1) := by decide +kernel
theorem dX11_lot_30 : decode cX11_lot 30 = .ok (.goto 4, 3) := by decide +kernel
theorem dX11_lot_33 : decode cX11_lot 33 = .ok (.iconst 0, 1) := by decide +kernel
theorem dX11_lot_34 : decode cX11_lot 34 = .ok (.iconst 2, 1) := by decide +kernel
theorem dX11_lot_35 : decode cX11_lot 35 = .ok (.invokevirtual 280, 3) := by decide +kernel
theorem dX11_lot_38 : decode cX11_lot 38 = .ok (.ifCond .eq 5, 3) := by decide +kernel
theorem dX11_lot_41 : decode cX11_lot 41 = .ok (.iconst 0, 1) := by decide +kernel
theorem dX11_lot_42 : decode cX11_lot 42 = .ok (.ireturn, 1) := by decide +kernel
theorem dX11_lot_43 : decode cX11_lot 43 = .ok (.bipush 64, 2) := by decide +kernel
theorem dX11_lot_45 : decode cX11_lot 45 = .ok (.bipush 7, 2) := by decide +kernel
theorem dX11_lot_47 : decode cX11_lot 47 = .ok (.iload_n 1, 1) := by decide +kernel
theorem dX11_lot_48 : decode cX11_lot 48 = .ok (.imul, 1) := by decide +kernel
theorem dX11_lot_49 : decode cX11_lot 49 = .ok (.iload_n 2, 1) := by decide +kernel
theorem dX11_lot_50 : decode cX11_lot 50 = .ok (.iadd, 1) := by decide +kernel
theorem dX11_lot_51 : decode cX11_lot 51 = .ok (.imul, 1) := by decide +kernel
theorem dX11_lot_52 : decode cX11_lot 52 = .ok (.iload_n 3, 1) := by decide +kernel
theorem dX11_lot_53 : decode cX11_lot 53 = .ok (.iadd, 1) := by decide +kernel
theorem dX11_lot_54 : decode cX11_lot 54 = .ok (.istore 5, 2) := by decide +kernel
theorem dX11_lot_56 : decode cX11_lot 56 = .ok (.aload_n 0, 1) := by decide +kernel
theorem dX11_lot_57 : decode cX11_lot 57 = .ok (.getfield 39, 3) := by decide +kernel
theorem dX11_lot_60 : decode cX11_lot 60 = .ok (.iload 5, 2) := by decide +kernel
theorem dX11_lot_62 : decode cX11_lot 62 = .ok (.iaload, 1) := by decide +kernel
theorem dX11_lot_63 : decode cX11_lot 63 = .ok (.istore 6, 2) := by decide +kernel
theorem dX11_lot_65 : decode cX11_lot 65 = .ok (.aload_n 0, 1) := by decide +kernel
theorem dX11_lot_66 : decode cX11_lot 66 = .ok (.getfield 39, 3) := by decide +kernel
theorem dX11_lot_69 : decode cX11_lot 69 = .ok (.iload 5, 2) := by decide +kernel
theorem dX11_lot_71 : decode cX11_lot 71 = .ok (.iload 4, 2) := by decide +kernel
theorem dX11_lot_73 : decode cX11_lot 73 = .ok (.iastore, 1) := by decide +kernel
theorem dX11_lot_74 : decode cX11_lot 74 = .ok (.iload 6, 2) := by decide +kernel
theorem dX11_lot_76 : decode cX11_lot 76 = .ok (.ireturn, 1) := by decide +kernel
theorem dX11_partOf_0 : decode cX11_partOf 0 = .ok (.iload_n 3, 1) := by decide +kernel
theorem dX11_partOf_1 : decode cX11_partOf 1 = .ok (.iload_n 2, 1) := by decide +kernel
theorem dX11_partOf_2 : decode cX11_partOf 2 = .ok (.iconst 1, 1) := by decide +kernel
theorem dX11_partOf_3 : decode cX11_partOf 3 = .ok (.isub, 1) := by decide +kernel
theorem dX11_partOf_4 : decode cX11_partOf 4 = .ok (.if_icmp .ge 21, 3) := by decide +kernel
theorem dX11_partOf_7 : decode cX11_partOf 7 = .ok (.aload_n 0, 1) := by decide +kernel
theorem dX11_partOf_8 : decode cX11_partOf 8 = .ok (.getfield 39, 3) := by decide +kernel
theorem dX11_partOf_11 : decode cX11_partOf 11 = .ok (.bipush 64, 2) := by decide +kernel
theorem dX11_partOf_13 : decode cX11_partOf 13 = .ok (.bipush 7, 2) := by decide +kernel
theorem dX11_partOf_15 : decode cX11_partOf 15 = .ok (.iload_n 1, 1) := by decide +kernel
theorem dX11_partOf_16 : decode cX11_partOf 16 = .ok (.imul, 1) := by decide +kernel
theorem dX11_partOf_17 : decode cX11_partOf 17 = .ok (.iload_n 3, 1) := by decide +kernel
theorem dX11_partOf_18 : decode cX11_partOf 18 = .ok (.iadd, 1) := by decide +kernel
theorem dX11_partOf_19 : decode cX11_partOf 19 = .ok (.imul, 1) := by decide +kernel
theorem dX11_partOf_20 : decode cX11_partOf 20 = .ok (.iload 4, 2) := by decide +kernel
theorem dX11_partOf_22 : decode cX11_partOf 22 = .ok (.iadd, 1) := by decide +kernel
theorem dX11_partOf_23 : decode cX11_partOf 23 = .ok (.iaload, 1) := by decide +kernel
theorem dX11_partOf_24 : decode cX11_partOf 24 = .ok (.ireturn, 1) := by decide +kernel
theorem dX11_partOf_25 : decode cX11_partOf 25 = .ok (.aload_n 0, 1) := by decide +kernel
theorem dX11_partOf_26 : decode cX11_partOf 26 = .ok (.getfield 33, 3) := by decide +kernel
theorem dX11_partOf_29 : decode cX11_partOf 29 = .ok (.bipush 64, 2) := by decide +kernel
theorem dX11_partOf_31 : decode cX11_partOf 31 = .ok (.iload_n 1, 1) := by decide +kernel
theorem dX11_partOf_32 : decode cX11_partOf 32 = .ok (.imul, 1) := by decide +kernel
theorem dX11_partOf_33 : decode cX11_partOf 33 = .ok (.iload 4, 2) := by decide +kernel
theorem dX11_partOf_35 : decode cX11_partOf 35 = .ok (.iadd, 1) := by decide +kernel
theorem dX11_partOf_36 : decode cX11_partOf 36 = .ok (.iaload, 1) := by decide +kernel
theorem dX11_partOf_37 : decode cX11_partOf 37 = .ok (.istore 5, 2) := by decide +kernel
theorem dX11_partOf_39 : decode cX11_partOf 39 = .ok (.iconst 0, 1) := by decide +kernel
theorem dX11_partOf_40 : decode cX11_partOf 40 = .ok (.istore 6, 2) := by decide +kernel
theorem dX11_partOf_42 : decode cX11_partOf 42 = .ok (.iload 6, 2) := by decide +kernel
theorem dX11_partOf_44 : decode cX11_partOf 44 = .ok (.iload_n 2, 1) := by decide +kernel
theorem dX11_partOf_45 : decode cX11_partOf 45 = .ok (.iconst 1, 1) := by decide +kernel
theorem dX11_partOf_46 : decode cX11_partOf 46 = .ok (.isub, 1) := by decide +kernel
theorem dX11_partOf_47 : decode cX11_partOf 47 = .ok (.if_icmp .ge 32, 3) := by decide +kernel
theorem dX11_partOf_50 : decode cX11_partOf 50 = .ok (.iload 5, 2) := by decide +kernel
theorem dX11_partOf_52 : decode cX11_partOf 52 = .ok (.aload_n 0, 1) := by decide +kernel
theorem dX11_partOf_53 : decode cX11_partOf 53 = .ok (.getfield 39, 3) := by decide +kernel
theorem dX11_partOf_56 : decode cX11_partOf 56 = .ok (.bipush 64, 2) := by decide +kernel
theorem dX11_partOf_58 : decode cX11_partOf 58 = .ok (.bipush 7, 2) := by decide +kernel
theorem dX11_partOf_60 : decode cX11_partOf 60 = .ok (.iload_n 1, 1) := by decide +kernel
theorem dX11_partOf_61 : decode cX11_partOf 61 = .ok (.imul, 1) := by decide +kernel
theorem dX11_partOf_62 : decode cX11_partOf 62 = .ok (.iload 6, 2) := by decide +kernel
theorem dX11_partOf_64 : decode cX11_partOf 64 = .ok (.iadd, 1) := by decide +kernel
theorem dX11_partOf_65 : decode cX11_partOf 65 = .ok (.imul, 1) := by decide +kernel
theorem dX11_partOf_66 : decode cX11_partOf 66 = .ok (.iload 4, 2) := by decide +kernel
theorem dX11_partOf_68 : decode cX11_partOf 68 = .ok (.iadd, 1) := by decide +kernel
theorem dX11_partOf_69 : decode cX11_partOf 69 = .ok (.iaload, 1) := by decide +kernel
theorem dX11_partOf_70 : decode cX11_partOf 70 = .ok (.isub, 1) := by decide +kernel
theorem dX11_partOf_71 : decode cX11_partOf 71 = .ok (.istore 5, 2) := by decide +kernel
theorem dX11_partOf_73 : decode cX11_partOf 73 = .ok (.iinc 6 1, 3) := by decide +kernel
theorem dX11_partOf_76 : decode cX11_partOf 76 = .ok (.goto (-34), 3) := by decide +kernel
theorem dX11_partOf_79 : decode cX11_partOf 79 = .ok (.iload 5, 2) := by decide +kernel
theorem dX11_partOf_81 : decode cX11_partOf 81 = .ok (.ireturn, 1) := by decide +kernel
