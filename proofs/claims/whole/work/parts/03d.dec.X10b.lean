theorem dX10_bid_0 : decode cX10_bid 0 = .ok (.aload_n 0, 1) := by decide +kernel
theorem dX10_bid_1 : decode cX10_bid 1 = .ok (.aload_n 0, 1) := by decide +kernel
theorem dX10_bid_2 : decode cX10_bid 2 = .ok (.iload_n 1, 1) := by decide +kernel
theorem dX10_bid_3 : decode cX10_bid 3 = .ok (.invokevirtual 82, 3) := by decide +kernel
theorem dX10_bid_6 : decode cX10_bid 6 = .ok (.iload_n 2, 1) := by decide +kernel
theorem dX10_bid_7 : decode cX10_bid 7 = .ok (.invokevirtual 166, 3) := by decide +kernel
theorem dX10_bid_10 : decode cX10_bid 10 = .ok (.astore 7, 2) := by decide +kernel
theorem dX10_bid_12 : decode cX10_bid 12 = .ok (.aload_n 0, 1) := by decide +kernel
theorem dX10_bid_13 : decode cX10_bid 13 = .ok (.iload_n 3, 1) := by decide +kernel
theorem dX10_bid_14 : decode cX10_bid 14 = .ok (.invokevirtual 153, 3) := by decide +kernel
theorem dX10_bid_17 : decode cX10_bid 17 = .ok (.pop, 1) := by decide +kernel
theorem dX10_bid_18 : decode cX10_bid 18 = .ok (.iload 4, 2) := by decide +kernel
theorem dX10_bid_20 : decode cX10_bid 20 = .ok (.iconst 0, 1) := by decide +kernel
theorem dX10_bid_21 : decode cX10_bid 21 = .ok (.ldc 54, 2) := by decide +kernel
theorem dX10_bid_23 : decode cX10_bid 23 = .ok (.invokestatic 55, 3) := by decide +kernel
theorem dX10_bid_26 : decode cX10_bid 26 = .ok (.ifCond .eq 26, 3) := by decide +kernel
theorem dX10_bid_29 : decode cX10_bid 29 = .ok (.iload 6, 2) := by decide +kernel
theorem dX10_bid_31 : decode cX10_bid 31 = .ok (.iconst 0, 1) := by decide +kernel
theorem dX10_bid_32 : decode cX10_bid 32 = .ok (.ldc 54, 2) := by decide +kernel
theorem dX10_bid_34 : decode cX10_bid 34 = .ok (.invokestatic 55, 3) := by decide +kernel
theorem dX10_bid_37 : decode cX10_bid 37 = .ok (.ifCond .eq 15, 3) := by decide +kernel
theorem dX10_bid_40 : decode cX10_bid 40 = .ok (.iload 5, 2) := by decide +kernel
theorem dX10_bid_42 : decode cX10_bid 42 = .ok (.iconst 1, 1) := by decide +kernel
theorem dX10_bid_43 : decode cX10_bid 43 = .ok (.sipush 1000, 3) := by decide +kernel
theorem dX10_bid_46 : decode cX10_bid 46 = .ok (.invokestatic 55, 3) := by decide +kernel
theorem dX10_bid_49 : decode cX10_bid 49 = .ok (.ifCond .ne 11, 3) := by decide +kernel
theorem dX10_bid_52 : decode cX10_bid 52 = .ok (.new 59, 3) := by decide +kernel
theorem dX10_bid_55 : decode cX10_bid 55 = .ok (.dup, 1) := by decide +kernel
theorem dX10_bid_56 : decode cX10_bid 56 = .ok (.invokespecial 61, 3) := by decide +kernel
theorem dX10_bid_59 : decode cX10_bid 59 = .ok (.athrow, 1) := by decide +kernel
theorem dX10_bid_60 : decode cX10_bid 60 = .ok (.aload 7, 2) := by decide +kernel
theorem dX10_bid_62 : decode cX10_bid 62 = .ok (.getfield 170, 3) := by decide +kernel
theorem dX10_bid_65 : decode cX10_bid 65 = .ok (.ifCond .eq 5, 3) := by decide +kernel
theorem dX10_bid_68 : decode cX10_bid 68 = .ok (.iconst (-1), 1) := by decide +kernel
theorem dX10_bid_69 : decode cX10_bid 69 = .ok (.ireturn, 1) := by decide +kernel
theorem dX10_bid_70 : decode cX10_bid 70 = .ok (.aload 7, 2) := by decide +kernel
theorem dX10_bid_72 : decode cX10_bid 72 = .ok (.iload_n 3, 1) := by decide +kernel
theorem dX10_bid_73 : decode cX10_bid 73 = .ok (.invokevirtual 266, 3) := by decide +kernel
theorem dX10_bid_76 : decode cX10_bid 76 = .ok (.ifCond .ne 7, 3) := by decide +kernel
theorem dX10_bid_79 : decode cX10_bid 79 = .ok (.iconst 1, 1) := by decide +kernel
theorem dX10_bid_80 : decode cX10_bid 80 = .ok (.goto 4, 3) := by decide +kernel
theorem dX10_bid_83 : decode cX10_bid 83 = .ok (.iconst 0, 1) := by decide +kernel
theorem dX10_bid_84 : decode cX10_bid 84 = .ok (.istore 8, 2) := by decide +kernel
theorem dX10_bid_86 : decode cX10_bid 86 = .ok (.iload 8, 2) := by decide +kernel
theorem dX10_bid_88 : decode cX10_bid 88 = .ok (.ifCond .eq 15, 3) := by decide +kernel
theorem dX10_bid_91 : decode cX10_bid 91 = .ok (.aload_n 0, 1) := by decide +kernel
theorem dX10_bid_92 : decode cX10_bid 92 = .ok (.getfield 183, 3) := by decide +kernel
theorem dX10_bid_95 : decode cX10_bid 95 = .ok (.bipush 24, 2) := by decide +kernel
theorem dX10_bid_97 : decode cX10_bid 97 = .ok (.if_icmp .lt 6, 3) := by decide +kernel
theorem dX10_bid_100 : decode cX10_bid 100 = .ok (.bipush (-2), 2) := by decide +kernel
theorem dX10_bid_102 : decode cX10_bid 102 = .ok (.ireturn, 1) := by decide +kernel
theorem dX10_bid_103 : decode cX10_bid 103 = .ok (.aload 7, 2) := by decide +kernel
theorem dX10_bid_105 : decode cX10_bid 105 = .ok (.iload_n 3, 1) := by decide +kernel
theorem dX10_bid_106 : decode cX10_bid 106 = .ok (.iload 4, 2) := by decide +kernel
theorem dX10_bid_108 : decode cX10_bid 108 = .ok (.iload 5, 2) := by decide +kernel
theorem dX10_bid_110 : decode cX10_bid 110 = .ok (.iload 6, 2) := by decide +kernel
theorem dX10_bid_112 : decode cX10_bid 112 = .ok (.invokevirtual 269, 3) := by decide +kernel
theorem dX10_bid_115 : decode cX10_bid 115 = .ok (.iload 8, 2) := by decide +kernel
theorem dX10_bid_117 : decode cX10_bid 117 = .ok (.ifCond .eq 13, 3) := by decide +kernel
theorem dX10_bid_120 : decode cX10_bid 120 = .ok (.aload_n 0, 1) := by decide +kernel
theorem dX10_bid_121 : decode cX10_bid 121 = .ok (.dup, 1) := by decide +kernel
theorem dX10_bid_122 : decode cX10_bid 122 = .ok (.getfield 183, 3) := by decide +kernel
theorem dX10_bid_125 : decode cX10_bid 125 = .ok (.iconst 1, 1) := by decide +kernel
theorem dX10_bid_126 : decode cX10_bid 126 = .ok (.iadd, 1) := by decide +kernel
theorem dX10_bid_127 : decode cX10_bid 127 = .ok (.putfield 183, 3) := by decide +kernel
theorem dX10_bid_130 : decode cX10_bid 130 = .ok (.iconst 1, 1) := by decide +kernel
theorem dX10_bid_131 : decode cX10_bid 131 = .ok (.ireturn, 1) := by decide +kernel
theorem dX10_cost_0 : decode cX10_cost 0 = .ok (.aload_n 0, 1) := by decide +kernel
theorem dX10_cost_1 : decode cX10_cost 1 = .ok (.aload_n 0, 1) := by decide +kernel
theorem dX10_cost_2 : decode cX10_cost 2 = .ok (.iload_n 1, 1) := by decide +kernel
theorem dX10_cost_3 : decode cX10_cost 3 = .ok (.invokevirtual 82, 3) := by decide +kernel
theorem dX10_cost_6 : decode cX10_cost 6 = .ok (.iload_n 2, 1) := by decide +kernel
theorem dX10_cost_7 : decode cX10_cost 7 = .ok (.invokevirtual 166, 3) := by decide +kernel
theorem dX10_cost_10 : decode cX10_cost 10 = .ok (.astore 4, 2) := by decide +kernel
theorem dX10_cost_12 : decode cX10_cost 12 = .ok (.aload_n 0, 1) := by decide +kernel
theorem dX10_cost_13 : decode cX10_cost 13 = .ok (.iload_n 3, 1) := by decide +kernel
theorem dX10_cost_14 : decode cX10_cost 14 = .ok (.invokevirtual 153, 3) := by decide +kernel
theorem dX10_cost_17 : decode cX10_cost 17 = .ok (.astore 5, 2) := by decide +kernel
theorem dX10_cost_19 : decode cX10_cost 19 = .ok (.aload 4, 2) := by decide +kernel
theorem dX10_cost_21 : decode cX10_cost 21 = .ok (.iload_n 3, 1) := by decide +kernel
theorem dX10_cost_22 : decode cX10_cost 22 = .ok (.invokevirtual 266, 3) := by decide +kernel
theorem dX10_cost_25 : decode cX10_cost 25 = .ok (.ifCond .eq 14, 3) := by decide +kernel
theorem dX10_cost_28 : decode cX10_cost 28 = .ok (.aload 4, 2) := by decide +kernel
theorem dX10_cost_30 : decode cX10_cost 30 = .ok (.iload_n 3, 1) := by decide +kernel
theorem dX10_cost_31 : decode cX10_cost 31 = .ok (.aload 5, 2) := by decide +kernel
theorem dX10_cost_33 : decode cX10_cost 33 = .ok (.invokevirtual 272, 3) := by decide +kernel
theorem dX10_cost_36 : decode cX10_cost 36 = .ok (.goto 6, 3) := by decide +kernel
theorem dX10_cost_39 : decode cX10_cost 39 = .ok (.ldc2_w 276, 3) := by decide +kernel
theorem dX10_cost_42 : decode cX10_cost 42 = .ok (.lreturn, 1) := by decide +kernel
theorem dX10_chosen_0 : decode cX10_chosen 0 = .ok (.aload_n 0, 1) := by decide +kernel
theorem dX10_chosen_1 : decode cX10_chosen 1 = .ok (.iload_n 1, 1) := by decide +kernel
theorem dX10_chosen_2 : decode cX10_chosen 2 = .ok (.invokevirtual 82, 3) := by decide +kernel
theorem dX10_chosen_5 : decode cX10_chosen 5 = .ok (.astore 5, 2) := by decide +kernel
theorem dX10_chosen_7 : decode cX10_chosen 7 = .ok (.iload_n 2, 1) := by decide +kernel
theorem dX10_chosen_8 : decode cX10_chosen 8 = .ok (.aload 5, 2) := by decide +kernel
theorem dX10_chosen_10 : decode cX10_chosen 10 = .ok (.getfield 97, 3) := by decide +kernel
theorem dX10_chosen_13 : decode cX10_chosen 13 = .ok (.iushr, 1) := by decide +kernel
theorem dX10_chosen_14 : decode cX10_chosen 14 = .ok (.ifCond .ne 15, 3) := by decide +kernel
theorem dX10_chosen_17 : decode cX10_chosen 17 = .ok (.iload_n 2, 1) := by decide +kernel
theorem dX10_chosen_18 : decode cX10_chosen 18 = .ok (.invokestatic 278, 3) := by decide +kernel
theorem dX10_chosen_21 : decode cX10_chosen 21 = .ok (.iconst 1, 1) := by decide +kernel
theorem dX10_chosen_22 : decode cX10_chosen 22 = .ok (.iconst 5, 1) := by decide +kernel
theorem dX10_chosen_23 : decode cX10_chosen 23 = .ok (.invokestatic 55, 3) := by decide +kernel
theorem dX10_chosen_26 : decode cX10_chosen 26 = .ok (.ifCond .ne 11, 3) := by decide +kernel
theorem dX10_chosen_29 : decode cX10_chosen 29 = .ok (.new 59, 3) := by decide +kernel
theorem dX10_chosen_32 : decode cX10_chosen 32 = .ok (.dup, 1) := by decide +kernel
theorem dX10_chosen_33 : decode cX10_chosen 33 = .ok (.invokespecial 61, 3) := by decide +kernel
theorem dX10_chosen_36 : decode cX10_chosen 36 = .ok (.athrow, 1) := by decide +kernel
theorem dX10_chosen_37 : decode cX10_chosen 37 = .ok (.iload_n 3, 1) := by decide +kernel
theorem dX10_chosen_38 : decode cX10_chosen 38 = .ok (.iconst 1, 1) := by decide +kernel
theorem dX10_chosen_39 : decode cX10_chosen 39 = .ok (.sipush 5000, 3) := by decide +kernel
theorem dX10_chosen_42 : decode cX10_chosen 42 = .ok (.invokestatic 55, 3) := by decide +kernel
theorem dX10_chosen_45 : decode cX10_chosen 45 = .ok (.ifCond .eq 14, 3) := by decide +kernel
theorem dX10_chosen_48 : decode cX10_chosen 48 = .ok (.iload 4, 2) := by decide +kernel
theorem dX10_chosen_50 : decode cX10_chosen 50 = .ok (.iconst (-1), 1) := by decide +kernel
theorem dX10_chosen_51 : decode cX10_chosen 51 = .ok (.bipush 19, 2) := by decide +kernel
theorem dX10_chosen_53 : decode cX10_chosen 53 = .ok (.invokestatic 55, 3) := by decide +kernel
theorem dX10_chosen_56 : decode cX10_chosen 56 = .ok (.ifCond .ne 11, 3) := by decide +kernel
theorem dX10_chosen_59 : decode cX10_chosen 59 = .ok (.new 59, 3) := by decide +kernel
theorem dX10_chosen_62 : decode cX10_chosen 62 = .ok (.dup, 1) := by decide +kernel
theorem dX10_chosen_63 : decode cX10_chosen 63 = .ok (.invokespecial 61, 3) := by decide +kernel
theorem dX10_chosen_66 : decode cX10_chosen 66 = .ok (.athrow, 1) := by decide +kernel
theorem dX10_chosen_67 : decode cX10_chosen 67 = .ok (.aload_n 0, 1) := by decide +kernel
theorem dX10_chosen_68 : decode cX10_chosen 68 = .ok (.getfield 26, 3) := by decide +kernel
theorem dX10_chosen_71 : decode cX10_chosen 71 = .ok (.aload 5, 2) := by decide +kernel
theorem dX10_chosen_73 : decode cX10_chosen 73 = .ok (.iload_n 2, 1) := by decide +kernel
theorem dX10_chosen_74 : decode cX10_chosen 74 = .ok (.iload_n 3, 1) := by decide +kernel
theorem dX10_chosen_75 : decode cX10_chosen 75 = .ok (.aload_n 0, 1) := by decide +kernel
theorem dX10_chosen_76 : decode cX10_chosen 76 = .ok (.getfield 19, 3) := by decide +kernel
theorem dX10_chosen_79 : decode cX10_chosen 79 = .ok (.getfield 144, 3) := by decide +kernel
theorem dX10_chosen_82 : decode cX10_chosen 82 = .ok (.invokevirtual 283, 3) := by decide +kernel
theorem dX10_chosen_85 : decode cX10_chosen 85 = .ok (.ifCond .ne 7, 3) := by decide +kernel
theorem dX10_chosen_88 : decode cX10_chosen 88 = .ok (.ldc2_w 287, 3) := by decide +kernel
theorem dX10_chosen_91 : decode cX10_chosen 91 = .ok (.lreturn, 1) := by decide +kernel
theorem dX10_chosen_92 : decode cX10_chosen 92 = .ok (.iload 4, 2) := by decide +kernel
theorem dX10_chosen_94 : decode cX10_chosen 94 = .ok (.iconst (-1), 1) := by decide +kernel
theorem dX10_chosen_95 : decode cX10_chosen 95 = .ok (.if_icmp .ne 13, 3) := by decide +kernel
theorem dX10_chosen_98 : decode cX10_chosen 98 = .ok (.aload_n 0, 1) := by decide +kernel
theorem dX10_chosen_99 : decode cX10_chosen 99 = .ok (.getfield 26, 3) := by decide +kernel
theorem dX10_chosen_102 : decode cX10_chosen 102 = .ok (.getfield 289, 3) := by decide +kernel
theorem dX10_chosen_105 : decode cX10_chosen 105 = .ok (.goto 13, 3) := by decide +kernel
theorem dX10_chosen_108 : decode cX10_chosen 108 = .ok (.aload_n 0, 1) := by decide +kernel
theorem dX10_chosen_109 : decode cX10_chosen 109 = .ok (.getfield 26, 3) := by decide +kernel
theorem dX10_chosen_112 : decode cX10_chosen 112 = .ok (.iload 4, 2) := by decide +kernel
theorem dX10_chosen_114 : decode cX10_chosen 114 = .ok (.invokevirtual 293, 3) := by decide +kernel
theorem dX10_chosen_117 : decode cX10_chosen 117 = .ok (.i2l, 1) := by decide +kernel
theorem dX10_chosen_118 : decode cX10_chosen 118 = .ok (.lreturn, 1) := by decide +kernel
theorem dX10_linear_0 : decode cX10_linear 0 = .ok (.aload_n 0, 1) := by decide +kernel
theorem dX10_linear_1 : decode cX10_linear 1 = .ok (.iload_n 1, 1) := by decide +kernel
theorem dX10_linear_2 : decode cX10_linear 2 = .ok (.invokevirtual 82, 3) := by decide +kernel
theorem dX10_linear_5 : decode cX10_linear 5 = .ok (.getfield 296, 3) := by decide +kernel
theorem dX10_linear_8 : decode cX10_linear 8 = .ok (.ireturn, 1) := by decide +kernel
theorem dX10_lot_0 : decode cX10_lot 0 = .ok (.aload_n 0, 1) := by decide +kernel
theorem dX10_lot_1 : decode cX10_lot 1 = .ok (.iload_n 1, 1) := by decide +kernel
theorem dX10_lot_2 : decode cX10_lot 2 = .ok (.invokevirtual 82, 3) := by decide +kernel
theorem dX10_lot_5 : decode cX10_lot 5 = .ok (.astore 5, 2) := by decide +kernel
theorem dX10_lot_7 : decode cX10_lot 7 = .ok (.iload_n 2, 1) := by decide +kernel
theorem dX10_lot_8 : decode cX10_lot 8 = .ok (.iconst 0, 1) := by decide +kernel
theorem dX10_lot_9 : decode cX10_lot 9 = .ok (.bipush 6, 2) := by decide +kernel
theorem dX10_lot_11 : decode cX10_lot 11 = .ok (.invokestatic 55, 3) := by decide +kernel
theorem dX10_lot_14 : decode cX10_lot 14 = .ok (.ifCond .eq 13, 3) := by decide +kernel
theorem dX10_lot_17 : decode cX10_lot 17 = .ok (.iload_n 3, 1) := by decide +kernel
theorem dX10_lot_18 : decode cX10_lot 18 = .ok (.iconst 0, 1) := by decide +kernel
theorem dX10_lot_19 : decode cX10_lot 19 = .ok (.bipush 63, 2) := by decide +kernel
theorem dX10_lot_21 : decode cX10_lot 21 = .ok (.invokestatic 55, 3) := by decide +kernel
theorem dX10_lot_24 : decode cX10_lot 24 = .ok (.ifCond .ne 11, 3) := by decide +kernel
theorem dX10_lot_27 : decode cX10_lot 27 = .ok (.new 59, 3) := by decide +kernel
theorem dX10_lot_30 : decode cX10_lot 30 = .ok (.dup, 1) := by decide +kernel
theorem dX10_lot_31 : decode cX10_lot 31 = .ok (.invokespecial 61, 3) := by decide +kernel
theorem dX10_lot_34 : decode cX10_lot 34 = .ok (.athrow, 1) := by decide +kernel
theorem dX10_lot_35 : decode cX10_lot 35 = .ok (.aload 5, 2) := by decide +kernel
theorem dX10_lot_37 : decode cX10_lot 37 = .ok (.getfield 298, 3) := by decide +kernel
theorem dX10_lot_40 : decode cX10_lot 40 = .ok (.iload_n 2, 1) := by decide +kernel
theorem dX10_lot_41 : decode cX10_lot 41 = .ok (.aaload, 1) := by decide +kernel
theorem dX10_lot_42 : decode cX10_lot 42 = .ok (.iload_n 3, 1) := by decide +kernel
theorem dX10_lot_43 : decode cX10_lot 43 = .ok (.iaload, 1) := by decide +kernel
theorem dX10_lot_44 : decode cX10_lot 44 = .ok (.istore 6, 2) := by decide +kernel
theorem dX10_lot_46 : decode cX10_lot 46 = .ok (.aload 5, 2) := by decide +kernel
theorem dX10_lot_48 : decode cX10_lot 48 = .ok (.getfield 298, 3) := by decide +kernel
theorem dX10_lot_51 : decode cX10_lot 51 = .ok (.iload_n 2, 1) := by decide +kernel
theorem dX10_lot_52 : decode cX10_lot 52 = .ok (.aaload, 1) := by decide +kernel
theorem dX10_lot_53 : decode cX10_lot 53 = .ok (.iload_n 3, 1) := by decide +kernel
theorem dX10_lot_54 : decode cX10_lot 54 = .ok (.iload 4, 2) := by decide +kernel
theorem dX10_lot_56 : decode cX10_lot 56 = .ok (.iastore, 1) := by decide +kernel
theorem dX10_lot_57 : decode cX10_lot 57 = .ok (.iload 6, 2) := by decide +kernel
theorem dX10_lot_59 : decode cX10_lot 59 = .ok (.ireturn, 1) := by decide +kernel
theorem dX10_part_0 : decode cX10_part 0 = .ok (.aload_n 0, 1) := by decide +kernel
theorem dX10_part_1 : decode cX10_part 1 = .ok (.iload_n 1, 1) := by decide +kernel
theorem dX10_part_2 : decode cX10_part 2 = .ok (.invokevirtual 82, 3) := by decide +kernel
theorem dX10_part_5 : decode cX10_part 5 = .ok (.astore 5, 2) := by decide +kernel
theorem dX10_part_7 : decode cX10_part 7 = .ok (.iload_n 2, 1) := by decide +kernel
theorem dX10_part_8 : decode cX10_part 8 = .ok (.iconst 2, 1) := by decide +kernel
theorem dX10_part_9 : decode cX10_part 9 = .ok (.bipush 8, 2) := by decide +kernel
theorem dX10_part_11 : decode cX10_part 11 = .ok (.invokestatic 55, 3) := by decide +kernel
theorem dX10_part_14 : decode cX10_part 14 = .ok (.ifCond .eq 25, 3) := by decide +kernel
theorem dX10_part_17 : decode cX10_part 17 = .ok (.iload_n 3, 1) := by decide +kernel
theorem dX10_part_18 : decode cX10_part 18 = .ok (.iconst 0, 1) := by decide +kernel
theorem dX10_part_19 : decode cX10_part 19 = .ok (.iload_n 2, 1) := by decide +kernel
theorem dX10_part_20 : decode cX10_part 20 = .ok (.iconst 1, 1) := by decide +kernel
theorem dX10_part_21 : decode cX10_part 21 = .ok (.isub, 1) := by decide +kernel
theorem dX10_part_22 : decode cX10_part 22 = .ok (.invokestatic 55, 3) := by decide +kernel
theorem dX10_part_25 : decode cX10_part 25 = .ok (.ifCond .eq 14, 3) := by decide +kernel
theorem dX10_part_28 : decode cX10_part 28 = .ok (.iload 4, 2) := by decide +kernel
theorem dX10_part_30 : decode cX10_part 30 = .ok (.iconst 0, 1) := by decide +kernel
theorem dX10_part_31 : decode cX10_part 31 = .ok (.bipush 63, 2) := by decide +kernel
theorem dX10_part_33 : decode cX10_part 33 = .ok (.invokestatic 55, 3) := by decide +kernel
theorem dX10_part_36 : decode cX10_part 36 = .ok (.ifCond .ne 11, 3) := by decide +kernel
theorem dX10_part_39 : decode cX10_part 39 = .ok (.new 59, 3) := by decide +kernel
theorem dX10_part_42 : decode cX10_part 42 = .ok (.dup, 1) := by decide +kernel
theorem dX10_part_43 : decode cX10_part 43 = .ok (.invokespecial 61, 3) := by decide +kernel
theorem dX10_part_46 : decode cX10_part 46 = .ok (.athrow, 1) := by decide +kernel
theorem dX10_part_47 : decode cX10_part 47 = .ok (.aload 5, 2) := by decide +kernel
theorem dX10_part_49 : decode cX10_part 49 = .ok (.iload_n 2, 1) := by decide +kernel
theorem dX10_part_50 : decode cX10_part 50 = .ok (.iload_n 3, 1) := by decide +kernel
theorem dX10_part_51 : decode cX10_part 51 = .ok (.iload 4, 2) := by decide +kernel
theorem dX10_part_53 : decode cX10_part 53 = .ok (.invokevirtual 302, 3) := by decide +kernel
theorem dX10_part_56 : decode cX10_part 56 = .ok (.ireturn, 1) := by decide +kernel
theorem dX10_out_0 : decode cX10_out 0 = .ok (.aload_n 0, 1) := by decide +kernel
theorem dX10_out_1 : decode cX10_out 1 = .ok (.iload_n 1, 1) := by decide +kernel
theorem dX10_out_2 : decode cX10_out 2 = .ok (.invokevirtual 82, 3) := by decide +kernel
theorem dX10_out_5 : decode cX10_out 5 = .ok (.astore 4, 2) := by decide +kernel
theorem dX10_out_7 : decode cX10_out 7 = .ok (.iload_n 2, 1) := by decide +kernel
theorem dX10_out_8 : decode cX10_out 8 = .ok (.ifCond .eq 13, 3) := by decide +kernel
theorem dX10_out_11 : decode cX10_out 11 = .ok (.iload_n 2, 1) := by decide +kernel
theorem dX10_out_12 : decode cX10_out 12 = .ok (.iconst 2, 1) := by decide +kernel
theorem dX10_out_13 : decode cX10_out 13 = .ok (.bipush 8, 2) := by decide +kernel
theorem dX10_out_15 : decode cX10_out 15 = .ok (.invokestatic 55, 3) := by decide +kernel
theorem dX10_out_18 : decode cX10_out 18 = .ok (.ifCond .eq 13, 3) := by decide +kernel
theorem dX10_out_21 : decode cX10_out 21 = .ok (.iload_n 3, 1) := by decide +kernel
theorem dX10_out_22 : decode cX10_out 22 = .ok (.iconst 0, 1) := by decide +kernel
theorem dX10_out_23 : decode cX10_out 23 = .ok (.bipush 9, 2) := by decide +kernel
theorem dX10_out_25 : decode cX10_out 25 = .ok (.invokestatic 55, 3) := by decide +kernel
theorem dX10_out_28 : decode cX10_out 28 = .ok (.ifCond .ne 11, 3) := by decide +kernel
theorem dX10_out_31 : decode cX10_out 31 = .ok (.new 59, 3) := by decide +kernel
theorem dX10_out_34 : decode cX10_out 34 = .ok (.dup, 1) := by decide +kernel
theorem dX10_out_35 : decode cX10_out 35 = .ok (.invokespecial 61, 3) := by decide +kernel
theorem dX10_out_38 : decode cX10_out 38 = .ok (.athrow, 1) := by decide +kernel
theorem dX10_out_39 : decode cX10_out 39 = .ok (.iload_n 2, 1) := by decide +kernel
theorem dX10_out_40 : decode cX10_out 40 = .ok (.ifCond .ne 17, 3) := by decide +kernel
theorem dX10_out_43 : decode cX10_out 43 = .ok (.aload_n 0, 1) := by decide +kernel
theorem dX10_out_44 : decode cX10_out 44 = .ok (.getfield 19, 3) := by decide +kernel
theorem dX10_out_47 : decode cX10_out 47 = .ok (.getfield 103, 3) := by decide +kernel
theorem dX10_out_50 : decode cX10_out 50 = .ok (.aload 4, 2) := by decide +kernel
theorem dX10_out_52 : decode cX10_out 52 = .ok (.iload_n 3, 1) := by decide +kernel
theorem dX10_out_53 : decode cX10_out 53 = .ok (.invokevirtual 306, 3) := by decide +kernel
theorem dX10_out_56 : decode cX10_out 56 = .ok (.ireturn, 1) := by decide +kernel
theorem dX10_out_57 : decode cX10_out 57 = .ok (.iconst 0, 1) := by decide +kernel
theorem dX10_out_58 : decode cX10_out 58 = .ok (.istore 5, 2) := by decide +kernel
theorem dX10_out_60 : decode cX10_out 60 = .ok (.iconst 0, 1) := by decide +kernel
theorem dX10_out_61 : decode cX10_out 61 = .ok (.istore 6, 2) := by decide +kernel
theorem dX10_out_63 : decode cX10_out 63 = .ok (.iload 6, 2) := by decide +kernel
theorem dX10_out_65 : decode cX10_out 65 = .ok (.iload_n 2, 1) := by decide +kernel
theorem dX10_out_66 : decode cX10_out 66 = .ok (.if_icmp .ge 30, 3) := by decide +kernel
theorem dX10_out_69 : decode cX10_out 69 = .ok (.iload 5, 2) := by decide +kernel
theorem dX10_out_71 : decode cX10_out 71 = .ok (.aload_n 0, 1) := by decide +kernel
theorem dX10_out_72 : decode cX10_out 72 = .ok (.getfield 19, 3) := by decide +kernel
theorem dX10_out_75 : decode cX10_out 75 = .ok (.getfield 103, 3) := by decide +kernel
theorem dX10_out_78 : decode cX10_out 78 = .ok (.aload 4, 2) := by decide +kernel
theorem dX10_out_80 : decode cX10_out 80 = .ok (.iload_n 2, 1) := by decide +kernel
theorem dX10_out_81 : decode cX10_out 81 = .ok (.iload 6, 2) := by decide +kernel
theorem dX10_out_83 : decode cX10_out 83 = .ok (.iload_n 3, 1) := by decide +kernel
theorem dX10_out_84 : decode cX10_out 84 = .ok (.invokevirtual 309, 3) := by decide +kernel
theorem dX10_out_87 : decode cX10_out 87 = .ok (.iadd, 1) := by decide +kernel
theorem dX10_out_88 : decode cX10_out 88 = .ok (.istore 5, 2) := by decide +kernel
theorem dX10_out_90 : decode cX10_out 90 = .ok (.iinc 6 1, 3) := by decide +kernel
theorem dX10_out_93 : decode cX10_out 93 = .ok (.goto (-30), 3) := by decide +kernel
theorem dX10_out_96 : decode cX10_out 96 = .ok (.iload 5, 2) := by decide +kernel
theorem dX10_out_98 : decode cX10_out 98 = .ok (.ireturn, 1) := by decide +kernel
theorem dX10_count_0 : decode cX10_count 0 = .ok (.iload_n 1, 1) := by decide +kernel
theorem dX10_count_1 : decode cX10_count 1 = .ok (.tableswitch 104 0 7 #[47, 55, 60, 65, 73, 78, 83, 94], 47) := by decide +kernel
theorem dX10_count_48 : decode cX10_count 48 = .ok (.aload_n 0, 1) := by decide +kernel
theorem dX10_count_49 : decode cX10_count 49 = .ok (.getfield 19, 3) := by decide +kernel
theorem dX10_count_52 : decode cX10_count 52 = .ok (.getfield 176, 3) := by decide +kernel
theorem dX10_count_55 : decode cX10_count 55 = .ok (.ireturn, 1) := by decide +kernel
theorem dX10_count_56 : decode cX10_count 56 = .ok (.aload_n 0, 1) := by decide +kernel
theorem dX10_count_57 : decode cX10_count 57 = .ok (.getfield 62, 3) := by decide +kernel
theorem dX10_count_60 : decode cX10_count 60 = .ok (.ireturn, 1) := by decide +kernel
theorem dX10_count_61 : decode cX10_count 61 = .ok (.aload_n 0, 1) := by decide +kernel
theorem dX10_count_62 : decode cX10_count 62 = .ok (.getfield 141, 3) := by decide +kernel
theorem dX10_count_65 : decode cX10_count 65 = .ok (.ireturn, 1) := by decide +kernel
theorem dX10_count_66 : decode cX10_count 66 = .ok (.aload_n 0, 1) := by decide +kernel
theorem dX10_count_67 : decode cX10_count 67 = .ok (.getfield 19, 3) := by decide +kernel
theorem dX10_count_70 : decode cX10_count 70 = .ok (.getfield 313, 3) := by decide +kernel
theorem dX10_count_73 : decode cX10_count 73 = .ok (.ireturn, 1) := by decide +kernel
theorem dX10_count_74 : decode cX10_count 74 = .ok (.aload_n 0, 1) := by decide +kernel
theorem dX10_count_75 : decode cX10_count 75 = .ok (.invokevirtual 316, 3) := by decide +kernel
theorem dX10_count_78 : decode cX10_count 78 = .ok (.ireturn, 1) := by decide +kernel
theorem dX10_count_79 : decode cX10_count 79 = .ok (.aload_n 0, 1) := by decide +kernel
theorem dX10_count_80 : decode cX10_count 80 = .ok (.getfield 183, 3) := by decide +kernel
theorem dX10_count_83 : decode cX10_count 83 = .ok (.ireturn, 1) := by decide +kernel
theorem dX10_count_84 : decode cX10_count 84 = .ok (.aload_n 0, 1) := by decide +kernel
theorem dX10_count_85 : decode cX10_count 85 = .ok (.getfield 10, 3) := by decide +kernel
theorem dX10_count_88 : decode cX10_count 88 = .ok (.getfield 41, 3) := by decide +kernel
theorem dX10_count_91 : decode cX10_count 91 = .ok (.getfield 45, 3) := by decide +kernel
theorem dX10_count_94 : decode cX10_count 94 = .ok (.ireturn, 1) := by decide +kernel
theorem dX10_count_95 : decode cX10_count 95 = .ok (.aload_n 0, 1) := by decide +kernel
theorem dX10_count_96 : decode cX10_count 96 = .ok (.invokevirtual 316, 3) := by decide +kernel
theorem dX10_count_99 : decode cX10_count 99 = .ok (.aload_n 0, 1) := by decide +kernel
theorem dX10_count_100 : decode cX10_count 100 = .ok (.invokevirtual 319, 3) := by decide +kernel
theorem dX10_count_103 : decode cX10_count 103 = .ok (.iadd, 1) := by decide +kernel
theorem dX10_count_104 : decode cX10_count 104 = .ok (.ireturn, 1) := by decide +kernel
theorem dX10_count_105 : decode cX10_count 105 = .ok (.iconst (-1), 1) := by decide +kernel
theorem dX10_count_106 : decode cX10_count 106 = .ok (.ireturn, 1) := by decide +kernel
theorem dX10_purse_0 : decode cX10_purse 0 = .ok (.aload_n 0, 1) := by decide +kernel
theorem dX10_purse_1 : decode cX10_purse 1 = .ok (.iload_n 1, 1) := by decide +kernel
theorem dX10_purse_2 : decode cX10_purse 2 = .ok (.invokevirtual 82, 3) := by decide +kernel
theorem dX10_purse_5 : decode cX10_purse 5 = .ok (.getfield 175, 3) := by decide +kernel
theorem dX10_purse_8 : decode cX10_purse 8 = .ok (.ireturn, 1) := by decide +kernel
theorem dX10_isWithin_0 : decode cX10_isWithin 0 = .ok (.iload_n 0, 1) := by decide +kernel
theorem dX10_isWithin_1 : decode cX10_isWithin 1 = .ok (.iload_n 1, 1) := by decide +kernel
theorem dX10_isWithin_2 : decode cX10_isWithin 2 = .ok (.if_icmp .lt 12, 3) := by decide +kernel
theorem dX10_isWithin_5 : decode cX10_isWithin 5 = .ok (.iload_n 0, 1) := by decide +kernel
theorem dX10_isWithin_6 : decode cX10_isWithin 6 = .ok (.iload_n 2, 1) := by decide +kernel
theorem dX10_isWithin_7 : decode cX10_isWithin 7 = .ok (.if_icmp .gt 7, 3) := by decide +kernel
theorem dX10_isWithin_10 : decode cX10_isWithin 10 = .ok (.iconst 1, 1) := by decide +kernel
theorem dX10_isWithin_11 : decode cX10_isWithin 11 = .ok (.goto 4, 3) := by decide +kernel
theorem dX10_isWithin_14 : decode cX10_isWithin 14 = .ok (.iconst 0, 1) := by decide +kernel
theorem dX10_isWithin_15 : decode cX10_isWithin 15 = .ok (.ireturn, 1) := by decide +kernel
theorem dX10_joined_0 : decode cX10_joined 0 = .ok (.ldc_w 322, 3) := by decide +kernel
theorem dX10_joined_3 : decode cX10_joined 3 = .ok (.iload_n 0, 1) := by decide +kernel
theorem dX10_joined_4 : decode cX10_joined 4 = .ok (.imul, 1) := by decide +kernel
theorem dX10_joined_5 : decode cX10_joined 5 = .ok (.bipush 7, 2) := by decide +kernel
theorem dX10_joined_7 : decode cX10_joined 7 = .ok (.iload_n 1, 1) := by decide +kernel
theorem dX10_joined_8 : decode cX10_joined 8 = .ok (.imul, 1) := by decide +kernel
theorem dX10_joined_9 : decode cX10_joined 9 = .ok (.iadd, 1) := by decide +kernel
theorem dX10_joined_10 : decode cX10_joined 10 = .ok (.iconst 1, 1) := by decide +kernel
theorem dX10_joined_11 : decode cX10_joined 11 = .ok (.iadd, 1) := by decide +kernel
theorem dX10_joined_12 : decode cX10_joined 12 = .ok (.ireturn, 1) := by decide +kernel
theorem dX10_taskAt_0 : decode cX10_taskAt 0 = .ok (.iload_n 1, 1) := by decide +kernel
theorem dX10_taskAt_1 : decode cX10_taskAt 1 = .ok (.ifCond .lt 17, 3) := by decide +kernel
theorem dX10_taskAt_4 : decode cX10_taskAt 4 = .ok (.iload_n 1, 1) := by decide +kernel
theorem dX10_taskAt_5 : decode cX10_taskAt 5 = .ok (.aload_n 0, 1) := by decide +kernel
theorem dX10_taskAt_6 : decode cX10_taskAt 6 = .ok (.getfield 62, 3) := by decide +kernel
theorem dX10_taskAt_9 : decode cX10_taskAt 9 = .ok (.if_icmp .ge 9, 3) := by decide +kernel
theorem dX10_taskAt_12 : decode cX10_taskAt 12 = .ok (.iload_n 1, 1) := by decide +kernel
theorem dX10_taskAt_13 : decode cX10_taskAt 13 = .ok (.bipush 6, 2) := by decide +kernel
theorem dX10_taskAt_15 : decode cX10_taskAt 15 = .ok (.if_icmp .lt 11, 3) := by decide +kernel
theorem dX10_taskAt_18 : decode cX10_taskAt 18 = .ok (.new 323, 3) := by decide +kernel
theorem dX10_taskAt_21 : decode cX10_taskAt 21 = .ok (.dup, 1) := by decide +kernel
theorem dX10_taskAt_22 : decode cX10_taskAt 22 = .ok (.invokespecial 325, 3) := by decide +kernel
theorem dX10_taskAt_25 : decode cX10_taskAt 25 = .ok (.athrow, 1) := by decide +kernel
theorem dX10_taskAt_26 : decode cX10_taskAt 26 = .ok (.aload_n 0, 1) := by decide +kernel
theorem dX10_taskAt_27 : decode cX10_taskAt 27 = .ok (.getfield 32, 3) := by decide +kernel
theorem dX10_taskAt_30 : decode cX10_taskAt 30 = .ok (.iload_n 1, 1) := by decide +kernel
theorem dX10_taskAt_31 : decode cX10_taskAt 31 = .ok (.aaload, 1) := by decide +kernel
theorem dX10_taskAt_32 : decode cX10_taskAt 32 = .ok (.areturn, 1) := by decide +kernel
theorem dX10_pieceAt_0 : decode cX10_pieceAt 0 = .ok (.aload_n 1, 1) := by decide +kernel
theorem dX10_pieceAt_1 : decode cX10_pieceAt 1 = .ok (.iload_n 2, 1) := by decide +kernel
theorem dX10_pieceAt_2 : decode cX10_pieceAt 2 = .ok (.invokevirtual 326, 3) := by decide +kernel
theorem dX10_pieceAt_5 : decode cX10_pieceAt 5 = .ok (.ifCond .ne 11, 3) := by decide +kernel
theorem dX10_pieceAt_8 : decode cX10_pieceAt 8 = .ok (.new 323, 3) := by decide +kernel
theorem dX10_pieceAt_11 : decode cX10_pieceAt 11 = .ok (.dup, 1) := by decide +kernel
theorem dX10_pieceAt_12 : decode cX10_pieceAt 12 = .ok (.invokespecial 325, 3) := by decide +kernel
theorem dX10_pieceAt_15 : decode cX10_pieceAt 15 = .ok (.athrow, 1) := by decide +kernel
theorem dX10_pieceAt_16 : decode cX10_pieceAt 16 = .ok (.aload_n 1, 1) := by decide +kernel
theorem dX10_pieceAt_17 : decode cX10_pieceAt 17 = .ok (.getfield 329, 3) := by decide +kernel
theorem dX10_pieceAt_20 : decode cX10_pieceAt 20 = .ok (.iload_n 2, 1) := by decide +kernel
theorem dX10_pieceAt_21 : decode cX10_pieceAt 21 = .ok (.aaload, 1) := by decide +kernel
theorem dX10_pieceAt_22 : decode cX10_pieceAt 22 = .ok (.areturn, 1) := by decide +kernel
theorem dX10_houseAt_0 : decode cX10_houseAt 0 = .ok (.iload_n 1, 1) := by decide +kernel
theorem dX10_houseAt_1 : decode cX10_houseAt 1 = .ok (.ifCond .lt 17, 3) := by decide +kernel
theorem dX10_houseAt_4 : decode cX10_houseAt 4 = .ok (.iload_n 1, 1) := by decide +kernel
theorem dX10_houseAt_5 : decode cX10_houseAt 5 = .ok (.aload_n 0, 1) := by decide +kernel
theorem dX10_houseAt_6 : decode cX10_houseAt 6 = .ok (.getfield 141, 3) := by decide +kernel
theorem dX10_houseAt_9 : decode cX10_houseAt 9 = .ok (.if_icmp .ge 9, 3) := by decide +kernel
theorem dX10_houseAt_12 : decode cX10_houseAt 12 = .ok (.iload_n 1, 1) := by decide +kernel
theorem dX10_houseAt_13 : decode cX10_houseAt 13 = .ok (.bipush 8, 2) := by decide +kernel
theorem dX10_houseAt_15 : decode cX10_houseAt 15 = .ok (.if_icmp .lt 11, 3) := by decide +kernel
theorem dX10_houseAt_18 : decode cX10_houseAt 18 = .ok (.new 323, 3) := by decide +kernel
theorem dX10_houseAt_21 : decode cX10_houseAt 21 = .ok (.dup, 1) := by decide +kernel
theorem dX10_houseAt_22 : decode cX10_houseAt 22 = .ok (.invokespecial 325, 3) := by decide +kernel
theorem dX10_houseAt_25 : decode cX10_houseAt 25 = .ok (.athrow, 1) := by decide +kernel
theorem dX10_houseAt_26 : decode cX10_houseAt 26 = .ok (.aload_n 0, 1) := by decide +kernel
theorem dX10_houseAt_27 : decode cX10_houseAt 27 = .ok (.getfield 19, 3) := by decide +kernel
theorem dX10_houseAt_30 : decode cX10_houseAt 30 = .ok (.getfield 144, 3) := by decide +kernel
theorem dX10_houseAt_33 : decode cX10_houseAt 33 = .ok (.iload_n 1, 1) := by decide +kernel
theorem dX10_houseAt_34 : decode cX10_houseAt 34 = .ok (.aaload, 1) := by decide +kernel
theorem dX10_houseAt_35 : decode cX10_houseAt 35 = .ok (.areturn, 1) := by decide +kernel
theorem dX10_earliestDue_0 : decode cX10_earliestDue 0 = .ok (.ldc_w 333, 3) := by decide +kernel
theorem dX10_earliestDue_3 : decode cX10_earliestDue 3 = .ok (.istore_n 1, 1) := by decide +kernel
theorem dX10_earliestDue_4 : decode cX10_earliestDue 4 = .ok (.iconst 0, 1) := by decide +kernel
theorem dX10_earliestDue_5 : decode cX10_earliestDue 5 = .ok (.istore_n 2, 1) := by decide +kernel
theorem dX10_earliestDue_6 : decode cX10_earliestDue 6 = .ok (.iload_n 2, 1) := by decide +kernel
theorem dX10_earliestDue_7 : decode cX10_earliestDue 7 = .ok (.aload_n 0, 1) := by decide +kernel
theorem dX10_earliestDue_8 : decode cX10_earliestDue 8 = .ok (.getfield 62, 3) := by decide +kernel
theorem dX10_earliestDue_11 : decode cX10_earliestDue 11 = .ok (.if_icmp .ge 66, 3) := by decide +kernel
theorem dX10_earliestDue_14 : decode cX10_earliestDue 14 = .ok (.iload_n 2, 1) := by decide +kernel
theorem dX10_earliestDue_15 : decode cX10_earliestDue 15 = .ok (.bipush 6, 2) := by decide +kernel
theorem dX10_earliestDue_17 : decode cX10_earliestDue 17 = .ok (.if_icmp .ge 60, 3) := by decide +kernel
theorem dX10_earliestDue_20 : decode cX10_earliestDue 20 = .ok (.aload_n 0, 1) := by decide +kernel
theorem dX10_earliestDue_21 : decode cX10_earliestDue 21 = .ok (.getfield 32, 3) := by decide +kernel
theorem dX10_earliestDue_24 : decode cX10_earliestDue 24 = .ok (.iload_n 2, 1) := by decide +kernel
theorem dX10_earliestDue_25 : decode cX10_earliestDue 25 = .ok (.aaload, 1) := by decide +kernel
theorem dX10_earliestDue_26 : decode cX10_earliestDue 26 = .ok (.astore_n 3, 1) := by decide +kernel
theorem dX10_earliestDue_27 : decode cX10_earliestDue 27 = .ok (.iconst 0, 1) := by decide +kernel
theorem dX10_earliestDue_28 : decode cX10_earliestDue 28 = .ok (.istore 4, 2) := by decide +kernel
theorem dX10_earliestDue_30 : decode cX10_earliestDue 30 = .ok (.iload 4, 2) := by decide +kernel
theorem dX10_earliestDue_32 : decode cX10_earliestDue 32 = .ok (.aload_n 3, 1) := by decide +kernel
theorem dX10_earliestDue_33 : decode cX10_earliestDue 33 = .ok (.getfield 97, 3) := by decide +kernel
theorem dX10_earliestDue_36 : decode cX10_earliestDue 36 = .ok (.if_icmp .ge 35, 3) := by decide +kernel
theorem dX10_earliestDue_39 : decode cX10_earliestDue 39 = .ok (.iload 4, 2) := by decide +kernel
theorem dX10_earliestDue_41 : decode cX10_earliestDue 41 = .ok (.bipush 20, 2) := by decide +kernel
theorem dX10_earliestDue_43 : decode cX10_earliestDue 43 = .ok (.if_icmp .ge 28, 3) := by decide +kernel
theorem dX10_earliestDue_46 : decode cX10_earliestDue 46 = .ok (.iload_n 1, 1) := by decide +kernel
theorem dX10_earliestDue_47 : decode cX10_earliestDue 47 = .ok (.aload_n 0, 1) := by decide +kernel
theorem dX10_earliestDue_48 : decode cX10_earliestDue 48 = .ok (.getfield 19, 3) := by decide +kernel
theorem dX10_earliestDue_51 : decode cX10_earliestDue 51 = .ok (.aload_n 3, 1) := by decide +kernel
theorem dX10_earliestDue_52 : decode cX10_earliestDue 52 = .ok (.getfield 329, 3) := by decide +kernel
theorem dX10_earliestDue_55 : decode cX10_earliestDue 55 = .ok (.iload 4, 2) := by decide +kernel
theorem dX10_earliestDue_57 : decode cX10_earliestDue 57 = .ok (.aaload, 1) := by decide +kernel
theorem dX10_earliestDue_58 : decode cX10_earliestDue 58 = .ok (.invokevirtual 334, 3) := by decide +kernel
theorem dX10_earliestDue_61 : decode cX10_earliestDue 61 = .ok (.invokestatic 255, 3) := by decide +kernel
theorem dX10_earliestDue_64 : decode cX10_earliestDue 64 = .ok (.istore_n 1, 1) := by decide +kernel
theorem dX10_earliestDue_65 : decode cX10_earliestDue 65 = .ok (.iinc 4 1, 3) := by decide +kernel
theorem dX10_earliestDue_68 : decode cX10_earliestDue 68 = .ok (.goto (-38), 3) := by decide +kernel
theorem dX10_earliestDue_71 : decode cX10_earliestDue 71 = .ok (.iinc 2 1, 3) := by decide +kernel
theorem dX10_earliestDue_74 : decode cX10_earliestDue 74 = .ok (.goto (-68), 3) := by decide +kernel
theorem dX10_earliestDue_77 : decode cX10_earliestDue 77 = .ok (.iload_n 1, 1) := by decide +kernel
theorem dX10_earliestDue_78 : decode cX10_earliestDue 78 = .ok (.ireturn, 1) := by decide +kernel
theorem dX10_lapseWhatIsDue_0 : decode cX10_lapseWhatIsDue 0 = .ok (.iconst 0, 1) := by decide +kernel
theorem dX10_lapseWhatIsDue_1 : decode cX10_lapseWhatIsDue 1 = .ok (.istore_n 1, 1) := by decide +kernel
theorem dX10_lapseWhatIsDue_2 : decode cX10_lapseWhatIsDue 2 = .ok (.iload_n 1, 1) := by decide +kernel
theorem dX10_lapseWhatIsDue_3 : decode cX10_lapseWhatIsDue 3 = .ok (.aload_n 0, 1) := by decide +kernel
theorem dX10_lapseWhatIsDue_4 : decode cX10_lapseWhatIsDue 4 = .ok (.getfield 62, 3) := by decide +kernel
theorem dX10_lapseWhatIsDue_7 : decode cX10_lapseWhatIsDue 7 = .ok (.if_icmp .ge 76, 3) := by decide +kernel
theorem dX10_lapseWhatIsDue_10 : decode cX10_lapseWhatIsDue 10 = .ok (.iload_n 1, 1) := by decide +kernel
theorem dX10_lapseWhatIsDue_11 : decode cX10_lapseWhatIsDue 11 = .ok (.bipush 6, 2) := by decide +kernel
theorem dX10_lapseWhatIsDue_13 : decode cX10_lapseWhatIsDue 13 = .ok (.if_icmp .ge 70, 3) := by decide +kernel
theorem dX10_lapseWhatIsDue_16 : decode cX10_lapseWhatIsDue 16 = .ok (.aload_n 0, 1) := by decide +kernel
theorem dX10_lapseWhatIsDue_17 : decode cX10_lapseWhatIsDue 17 = .ok (.getfield 32, 3) := by decide +kernel
theorem dX10_lapseWhatIsDue_20 : decode cX10_lapseWhatIsDue 20 = .ok (.iload_n 1, 1) := by decide +kernel
theorem dX10_lapseWhatIsDue_21 : decode cX10_lapseWhatIsDue 21 = .ok (.aaload, 1) := by decide +kernel
theorem dX10_lapseWhatIsDue_22 : decode cX10_lapseWhatIsDue 22 = .ok (.astore_n 2, 1) := by decide +kernel
theorem dX10_lapseWhatIsDue_23 : decode cX10_lapseWhatIsDue 23 = .ok (.iconst 0, 1) := by decide +kernel
theorem dX10_lapseWhatIsDue_24 : decode cX10_lapseWhatIsDue 24 = .ok (.istore_n 3, 1) := by decide +kernel
theorem dX10_lapseWhatIsDue_25 : decode cX10_lapseWhatIsDue 25 = .ok (.iload_n 3, 1) := by decide +kernel
theorem dX10_lapseWhatIsDue_26 : decode cX10_lapseWhatIsDue 26 = .ok (.aload_n 2, 1) := by decide +kernel
theorem dX10_lapseWhatIsDue_27 : decode cX10_lapseWhatIsDue 27 = .ok (.getfield 97, 3) := by decide +kernel
theorem dX10_lapseWhatIsDue_30 : decode cX10_lapseWhatIsDue 30 = .ok (.if_icmp .ge 47, 3) := by decide +kernel
theorem dX10_lapseWhatIsDue_33 : decode cX10_lapseWhatIsDue 33 = .ok (.iload_n 3, 1) := by decide +kernel
theorem dX10_lapseWhatIsDue_34 : decode cX10_lapseWhatIsDue 34 = .ok (.bipush 20, 2) := by decide +kernel
theorem dX10_lapseWhatIsDue_36 : decode cX10_lapseWhatIsDue 36 = .ok (.if_icmp .ge 41, 3) := by decide +kernel
theorem dX10_lapseWhatIsDue_39 : decode cX10_lapseWhatIsDue 39 = .ok (.aload_n 0, 1) := by decide +kernel
theorem dX10_lapseWhatIsDue_40 : decode cX10_lapseWhatIsDue 40 = .ok (.getfield 19, 3) := by decide +kernel
theorem dX10_lapseWhatIsDue_43 : decode cX10_lapseWhatIsDue 43 = .ok (.aload_n 2, 1) := by decide +kernel
theorem dX10_lapseWhatIsDue_44 : decode cX10_lapseWhatIsDue 44 = .ok (.getfield 329, 3) := by decide +kernel
theorem dX10_lapseWhatIsDue_47 : decode cX10_lapseWhatIsDue 47 = .ok (.iload_n 3, 1) := by decide +kernel
theorem dX10_lapseWhatIsDue_48 : decode cX10_lapseWhatIsDue 48 = .ok (.aaload, 1) := by decide +kernel
theorem dX10_lapseWhatIsDue_49 : decode cX10_lapseWhatIsDue 49 = .ok (.invokevirtual 334, 3) := by decide +kernel
theorem dX10_lapseWhatIsDue_52 : decode cX10_lapseWhatIsDue 52 = .ok (.aload_n 0, 1) := by decide +kernel
theorem dX10_lapseWhatIsDue_53 : decode cX10_lapseWhatIsDue 53 = .ok (.getfield 19, 3) := by decide +kernel
theorem dX10_lapseWhatIsDue_56 : decode cX10_lapseWhatIsDue 56 = .ok (.getfield 176, 3) := by decide +kernel
theorem dX10_lapseWhatIsDue_59 : decode cX10_lapseWhatIsDue 59 = .ok (.if_icmp .gt 12, 3) := by decide +kernel
theorem dX10_lapseWhatIsDue_62 : decode cX10_lapseWhatIsDue 62 = .ok (.aload_n 0, 1) := by decide +kernel
theorem dX10_lapseWhatIsDue_63 : decode cX10_lapseWhatIsDue 63 = .ok (.getfield 19, 3) := by decide +kernel
theorem dX10_lapseWhatIsDue_66 : decode cX10_lapseWhatIsDue 66 = .ok (.aload_n 2, 1) := by decide +kernel
theorem dX10_lapseWhatIsDue_67 : decode cX10_lapseWhatIsDue 67 = .ok (.iload_n 3, 1) := by decide +kernel
theorem dX10_lapseWhatIsDue_68 : decode cX10_lapseWhatIsDue 68 = .ok (.invokevirtual 338, 3) := by decide +kernel
theorem dX10_lapseWhatIsDue_71 : decode cX10_lapseWhatIsDue 71 = .ok (.iinc 3 1, 3) := by decide +kernel
theorem dX10_lapseWhatIsDue_74 : decode cX10_lapseWhatIsDue 74 = .ok (.goto (-49), 3) := by decide +kernel
theorem dX10_lapseWhatIsDue_77 : decode cX10_lapseWhatIsDue 77 = .ok (.iinc 1 1, 3) := by decide +kernel
theorem dX10_lapseWhatIsDue_80 : decode cX10_lapseWhatIsDue 80 = .ok (.goto (-78), 3) := by decide +kernel
theorem dX10_lapseWhatIsDue_83 : decode cX10_lapseWhatIsDue 83 = .ok (.return_, 1) := by decide +kernel
theorem dX10_heldCoins_0 : decode cX10_heldCoins 0 = .ok (.iconst 0, 1) := by decide +kernel
theorem dX10_heldCoins_1 : decode cX10_heldCoins 1 = .ok (.istore_n 1, 1) := by decide +kernel
theorem dX10_heldCoins_2 : decode cX10_heldCoins 2 = .ok (.iconst 0, 1) := by decide +kernel
theorem dX10_heldCoins_3 : decode cX10_heldCoins 3 = .ok (.istore_n 2, 1) := by decide +kernel
theorem dX10_heldCoins_4 : decode cX10_heldCoins 4 = .ok (.iload_n 2, 1) := by decide +kernel
theorem dX10_heldCoins_5 : decode cX10_heldCoins 5 = .ok (.aload_n 0, 1) := by decide +kernel
theorem dX10_heldCoins_6 : decode cX10_heldCoins 6 = .ok (.getfield 62, 3) := by decide +kernel
theorem dX10_heldCoins_9 : decode cX10_heldCoins 9 = .ok (.if_icmp .ge 60, 3) := by decide +kernel
theorem dX10_heldCoins_12 : decode cX10_heldCoins 12 = .ok (.iload_n 2, 1) := by decide +kernel
theorem dX10_heldCoins_13 : decode cX10_heldCoins 13 = .ok (.bipush 6, 2) := by decide +kernel
theorem dX10_heldCoins_15 : decode cX10_heldCoins 15 = .ok (.if_icmp .ge 54, 3) := by decide +kernel
theorem dX10_heldCoins_18 : decode cX10_heldCoins 18 = .ok (.aload_n 0, 1) := by decide +kernel
theorem dX10_heldCoins_19 : decode cX10_heldCoins 19 = .ok (.getfield 32, 3) := by decide +kernel
theorem dX10_heldCoins_22 : decode cX10_heldCoins 22 = .ok (.iload_n 2, 1) := by decide +kernel
theorem dX10_heldCoins_23 : decode cX10_heldCoins 23 = .ok (.aaload, 1) := by decide +kernel
theorem dX10_heldCoins_24 : decode cX10_heldCoins 24 = .ok (.astore_n 3, 1) := by decide +kernel
theorem dX10_heldCoins_25 : decode cX10_heldCoins 25 = .ok (.iconst 0, 1) := by decide +kernel
theorem dX10_heldCoins_26 : decode cX10_heldCoins 26 = .ok (.istore 4, 2) := by decide +kernel
theorem dX10_heldCoins_28 : decode cX10_heldCoins 28 = .ok (.iload 4, 2) := by decide +kernel
theorem dX10_heldCoins_30 : decode cX10_heldCoins 30 = .ok (.aload_n 3, 1) := by decide +kernel
theorem dX10_heldCoins_31 : decode cX10_heldCoins 31 = .ok (.getfield 97, 3) := by decide +kernel
theorem dX10_heldCoins_34 : decode cX10_heldCoins 34 = .ok (.if_icmp .ge 29, 3) := by decide +kernel
theorem dX10_heldCoins_37 : decode cX10_heldCoins 37 = .ok (.iload 4, 2) := by decide +kernel
theorem dX10_heldCoins_39 : decode cX10_heldCoins 39 = .ok (.bipush 20, 2) := by decide +kernel
theorem dX10_heldCoins_41 : decode cX10_heldCoins 41 = .ok (.if_icmp .ge 22, 3) := by decide +kernel
theorem dX10_heldCoins_44 : decode cX10_heldCoins 44 = .ok (.iload_n 1, 1) := by decide +kernel
theorem dX10_heldCoins_45 : decode cX10_heldCoins 45 = .ok (.aload_n 3, 1) := by decide +kernel
theorem dX10_heldCoins_46 : decode cX10_heldCoins 46 = .ok (.getfield 329, 3) := by decide +kernel
theorem dX10_heldCoins_49 : decode cX10_heldCoins 49 = .ok (.iload 4, 2) := by decide +kernel
theorem dX10_heldCoins_51 : decode cX10_heldCoins 51 = .ok (.aaload, 1) := by decide +kernel
theorem dX10_heldCoins_52 : decode cX10_heldCoins 52 = .ok (.invokevirtual 341, 3) := by decide +kernel
theorem dX10_heldCoins_55 : decode cX10_heldCoins 55 = .ok (.iadd, 1) := by decide +kernel
theorem dX10_heldCoins_56 : decode cX10_heldCoins 56 = .ok (.istore_n 1, 1) := by decide +kernel
theorem dX10_heldCoins_57 : decode cX10_heldCoins 57 = .ok (.iinc 4 1, 3) := by decide +kernel
theorem dX10_heldCoins_60 : decode cX10_heldCoins 60 = .ok (.goto (-32), 3) := by decide +kernel
theorem dX10_heldCoins_63 : decode cX10_heldCoins 63 = .ok (.iinc 2 1, 3) := by decide +kernel
theorem dX10_heldCoins_66 : decode cX10_heldCoins 66 = .ok (.goto (-62), 3) := by decide +kernel
theorem dX10_heldCoins_69 : decode cX10_heldCoins 69 = .ok (.iload_n 1, 1) := by decide +kernel
theorem dX10_heldCoins_70 : decode cX10_heldCoins 70 = .ok (.ireturn, 1) := by decide +kernel
theorem dX10_freeCoins_0 : decode cX10_freeCoins 0 = .ok (.aload_n 0, 1) := by decide +kernel
theorem dX10_freeCoins_1 : decode cX10_freeCoins 1 = .ok (.getfield 19, 3) := by decide +kernel
theorem dX10_freeCoins_4 : decode cX10_freeCoins 4 = .ok (.getfield 313, 3) := by decide +kernel
theorem dX10_freeCoins_7 : decode cX10_freeCoins 7 = .ok (.istore_n 1, 1) := by decide +kernel
theorem dX10_freeCoins_8 : decode cX10_freeCoins 8 = .ok (.iconst 0, 1) := by decide +kernel
theorem dX10_freeCoins_9 : decode cX10_freeCoins 9 = .ok (.istore_n 2, 1) := by decide +kernel
theorem dX10_freeCoins_10 : decode cX10_freeCoins 10 = .ok (.iload_n 2, 1) := by decide +kernel
theorem dX10_freeCoins_11 : decode cX10_freeCoins 11 = .ok (.aload_n 0, 1) := by decide +kernel
theorem dX10_freeCoins_12 : decode cX10_freeCoins 12 = .ok (.getfield 62, 3) := by decide +kernel
theorem dX10_freeCoins_15 : decode cX10_freeCoins 15 = .ok (.if_icmp .ge 27, 3) := by decide +kernel
theorem dX10_freeCoins_18 : decode cX10_freeCoins 18 = .ok (.iload_n 2, 1) := by decide +kernel
theorem dX10_freeCoins_19 : decode cX10_freeCoins 19 = .ok (.bipush 6, 2) := by decide +kernel
theorem dX10_freeCoins_21 : decode cX10_freeCoins 21 = .ok (.if_icmp .ge 21, 3) := by decide +kernel
theorem dX10_freeCoins_24 : decode cX10_freeCoins 24 = .ok (.iload_n 1, 1) := by decide +kernel
theorem dX10_freeCoins_25 : decode cX10_freeCoins 25 = .ok (.aload_n 0, 1) := by decide +kernel
theorem dX10_freeCoins_26 : decode cX10_freeCoins 26 = .ok (.getfield 32, 3) := by decide +kernel
theorem dX10_freeCoins_29 : decode cX10_freeCoins 29 = .ok (.iload_n 2, 1) := by decide +kernel
theorem dX10_freeCoins_30 : decode cX10_freeCoins 30 = .ok (.aaload, 1) := by decide +kernel
theorem dX10_freeCoins_31 : decode cX10_freeCoins 31 = .ok (.getfield 175, 3) := by decide +kernel
theorem dX10_freeCoins_34 : decode cX10_freeCoins 34 = .ok (.iadd, 1) := by decide +kernel
theorem dX10_freeCoins_35 : decode cX10_freeCoins 35 = .ok (.istore_n 1, 1) := by decide +kernel
theorem dX10_freeCoins_36 : decode cX10_freeCoins 36 = .ok (.iinc 2 1, 3) := by decide +kernel
theorem dX10_freeCoins_39 : decode cX10_freeCoins 39 = .ok (.goto (-29), 3) := by decide +kernel
theorem dX10_freeCoins_42 : decode cX10_freeCoins 42 = .ok (.iconst 0, 1) := by decide +kernel
theorem dX10_freeCoins_43 : decode cX10_freeCoins 43 = .ok (.istore_n 2, 1) := by decide +kernel
theorem dX10_freeCoins_44 : decode cX10_freeCoins 44 = .ok (.iload_n 2, 1) := by decide +kernel
theorem dX10_freeCoins_45 : decode cX10_freeCoins 45 = .ok (.aload_n 0, 1) := by decide +kernel
theorem dX10_freeCoins_46 : decode cX10_freeCoins 46 = .ok (.getfield 141, 3) := by decide +kernel
theorem dX10_freeCoins_49 : decode cX10_freeCoins 49 = .ok (.if_icmp .ge 30, 3) := by decide +kernel
theorem dX10_freeCoins_52 : decode cX10_freeCoins 52 = .ok (.iload_n 2, 1) := by decide +kernel
theorem dX10_freeCoins_53 : decode cX10_freeCoins 53 = .ok (.bipush 8, 2) := by decide +kernel
theorem dX10_freeCoins_55 : decode cX10_freeCoins 55 = .ok (.if_icmp .ge 24, 3) := by decide +kernel
theorem dX10_freeCoins_58 : decode cX10_freeCoins 58 = .ok (.iload_n 1, 1) := by decide +kernel
theorem dX10_freeCoins_59 : decode cX10_freeCoins 59 = .ok (.aload_n 0, 1) := by decide +kernel
theorem dX10_freeCoins_60 : decode cX10_freeCoins 60 = .ok (.getfield 19, 3) := by decide +kernel
theorem dX10_freeCoins_63 : decode cX10_freeCoins 63 = .ok (.getfield 144, 3) := by decide +kernel
theorem dX10_freeCoins_66 : decode cX10_freeCoins 66 = .ok (.iload_n 2, 1) := by decide +kernel
theorem dX10_freeCoins_67 : decode cX10_freeCoins 67 = .ok (.aaload, 1) := by decide +kernel
theorem dX10_freeCoins_68 : decode cX10_freeCoins 68 = .ok (.getfield 148, 3) := by decide +kernel
theorem dX10_freeCoins_71 : decode cX10_freeCoins 71 = .ok (.iadd, 1) := by decide +kernel
theorem dX10_freeCoins_72 : decode cX10_freeCoins 72 = .ok (.istore_n 1, 1) := by decide +kernel
theorem dX10_freeCoins_73 : decode cX10_freeCoins 73 = .ok (.iinc 2 1, 3) := by decide +kernel
theorem dX10_freeCoins_76 : decode cX10_freeCoins 76 = .ok (.goto (-32), 3) := by decide +kernel
theorem dX10_freeCoins_79 : decode cX10_freeCoins 79 = .ok (.iload_n 1, 1) := by decide +kernel
theorem dX10_freeCoins_80 : decode cX10_freeCoins 80 = .ok (.ireturn, 1) := by decide +kernel
