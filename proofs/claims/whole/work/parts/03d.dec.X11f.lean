theorem dX11_part_0 : decode cX11_part 0 = .ok (.aload_n 0, 1) := by decide +kernel
theorem dX11_part_1 : decode cX11_part 1 = .ok (.iload_n 1, 1) := by decide +kernel
theorem dX11_part_2 : decode cX11_part 2 = .ok (.invokevirtual 284, 3) := by decide +kernel
theorem dX11_part_5 : decode cX11_part 5 = .ok (.ifCond .eq 48, 3) := by decide +kernel
theorem dX11_part_8 : decode cX11_part 8 = .ok (.aload_n 0, 1) := by decide +kernel
theorem dX11_part_9 : decode cX11_part 9 = .ok (.iload_n 2, 1) := by decide +kernel
theorem dX11_part_10 : decode cX11_part 10 = .ok (.iconst 2, 1) := by decide +kernel
theorem dX11_part_11 : decode cX11_part 11 = .ok (.bipush 8, 2) := by decide +kernel
theorem dX11_part_13 : decode cX11_part 13 = .ok (.invokestatic 276, 3) := by decide +kernel
theorem dX11_part_16 : decode cX11_part 16 = .ok (.ifCond .eq 25, 3) := by decide +kernel
theorem dX11_part_19 : decode cX11_part 19 = .ok (.iload_n 3, 1) := by decide +kernel
theorem dX11_part_20 : decode cX11_part 20 = .ok (.iconst 0, 1) := by decide +kernel
theorem dX11_part_21 : decode cX11_part 21 = .ok (.iload_n 2, 1) := by decide +kernel
theorem dX11_part_22 : decode cX11_part 22 = .ok (.iconst 1, 1) := by decide +kernel
theorem dX11_part_23 : decode cX11_part 23 = .ok (.isub, 1) := by decide +kernel
theorem dX11_part_24 : decode cX11_part 24 = .ok (.invokestatic 276, 3) := by decide +kernel
theorem dX11_part_27 : decode cX11_part 27 = .ok (.ifCond .eq 14, 3) := by decide +kernel
theorem dX11_part_30 : decode cX11_part 30 = .ok (.iload 4, 2) := by decide +kernel
theorem dX11_part_32 : decode cX11_part 32 = .ok (.iconst 0, 1) := by decide +kernel
theorem dX11_part_33 : decode cX11_part 33 = .ok (.bipush 63, 2) := by decide +kernel
theorem dX11_part_35 : decode cX11_part 35 = .ok (.invokestatic 276, 3) := by decide +kernel
theorem dX11_part_38 : decode cX11_part 38 = .ok (.ifCond .ne 7, 3) := by decide +kernel
theorem dX11_part_41 : decode cX11_part 41 = .ok (.iconst 1, 1) := by decide +kernel
theorem dX11_part_42 : decode cX11_part 42 = .ok (.goto 4, 3) := by decide +kernel
theorem dX11_part_45 : decode cX11_part 45 = .ok (.iconst 0, 1) := by decide +kernel
theorem dX11_part_46 : decode cX11_part 46 = .ok (.iconst 2, 1) := by decide +kernel
theorem dX11_part_47 : decode cX11_part 47 = .ok (.invokevirtual 280, 3) := by decide +kernel
theorem dX11_part_50 : decode cX11_part 50 = .ok (.ifCond .eq 5, 3) := by decide +kernel
theorem dX11_part_53 : decode cX11_part 53 = .ok (.iconst 0, 1) := by decide +kernel
theorem dX11_part_54 : decode cX11_part 54 = .ok (.ireturn, 1) := by decide +kernel
theorem dX11_part_55 : decode cX11_part 55 = .ok (.aload_n 0, 1) := by decide +kernel
theorem dX11_part_56 : decode cX11_part 56 = .ok (.iload_n 1, 1) := by decide +kernel
theorem dX11_part_57 : decode cX11_part 57 = .ok (.iload_n 2, 1) := by decide +kernel
theorem dX11_part_58 : decode cX11_part 58 = .ok (.iload_n 3, 1) := by decide +kernel
theorem dX11_part_59 : decode cX11_part 59 = .ok (.iload 4, 2) := by decide +kernel
theorem dX11_part_61 : decode cX11_part 61 = .ok (.invokevirtual 287, 3) := by decide +kernel
theorem dX11_part_64 : decode cX11_part 64 = .ok (.ireturn, 1) := by decide +kernel
theorem dX11_outOf_0 : decode cX11_outOf 0 = .ok (.aload_n 0, 1) := by decide +kernel
theorem dX11_outOf_1 : decode cX11_outOf 1 = .ok (.iload_n 1, 1) := by decide +kernel
theorem dX11_outOf_2 : decode cX11_outOf 2 = .ok (.iload_n 2, 1) := by decide +kernel
theorem dX11_outOf_3 : decode cX11_outOf 3 = .ok (.iload_n 3, 1) := by decide +kernel
theorem dX11_outOf_4 : decode cX11_outOf 4 = .ok (.sipush 20000, 3) := by decide +kernel
theorem dX11_outOf_7 : decode cX11_outOf 7 = .ok (.invokevirtual 308, 3) := by decide +kernel
theorem dX11_outOf_10 : decode cX11_outOf 10 = .ok (.pop, 1) := by decide +kernel
theorem dX11_outOf_11 : decode cX11_outOf 11 = .ok (.aload_n 0, 1) := by decide +kernel
theorem dX11_outOf_12 : decode cX11_outOf 12 = .ok (.getfield 27, 3) := by decide +kernel
theorem dX11_outOf_15 : decode cX11_outOf 15 = .ok (.sipush 500, 3) := by decide +kernel
theorem dX11_outOf_18 : decode cX11_outOf 18 = .ok (.iload_n 1, 1) := by decide +kernel
theorem dX11_outOf_19 : decode cX11_outOf 19 = .ok (.imul, 1) := by decide +kernel
theorem dX11_outOf_20 : decode cX11_outOf 20 = .ok (.aload_n 0, 1) := by decide +kernel
theorem dX11_outOf_21 : decode cX11_outOf 21 = .ok (.getfield 42, 3) := by decide +kernel
theorem dX11_outOf_24 : decode cX11_outOf 24 = .ok (.iconst 0, 1) := by decide +kernel
theorem dX11_outOf_25 : decode cX11_outOf 25 = .ok (.iaload, 1) := by decide +kernel
theorem dX11_outOf_26 : decode cX11_outOf 26 = .ok (.iadd, 1) := by decide +kernel
theorem dX11_outOf_27 : decode cX11_outOf 27 = .ok (.iaload, 1) := by decide +kernel
theorem dX11_outOf_28 : decode cX11_outOf 28 = .ok (.ifCond .ne 13, 3) := by decide +kernel
theorem dX11_outOf_31 : decode cX11_outOf 31 = .ok (.aload_n 0, 1) := by decide +kernel
theorem dX11_outOf_32 : decode cX11_outOf 32 = .ok (.getfield 45, 3) := by decide +kernel
theorem dX11_outOf_35 : decode cX11_outOf 35 = .ok (.iload 4, 2) := by decide +kernel
theorem dX11_outOf_37 : decode cX11_outOf 37 = .ok (.iaload, 1) := by decide +kernel
theorem dX11_outOf_38 : decode cX11_outOf 38 = .ok (.goto 4, 3) := by decide +kernel
theorem dX11_outOf_41 : decode cX11_outOf 41 = .ok (.iconst 0, 1) := by decide +kernel
theorem dX11_outOf_42 : decode cX11_outOf 42 = .ok (.ireturn, 1) := by decide +kernel
theorem dX11_out_0 : decode cX11_out 0 = .ok (.aload_n 0, 1) := by decide +kernel
theorem dX11_out_1 : decode cX11_out 1 = .ok (.iload_n 1, 1) := by decide +kernel
theorem dX11_out_2 : decode cX11_out 2 = .ok (.invokevirtual 284, 3) := by decide +kernel
theorem dX11_out_5 : decode cX11_out 5 = .ok (.ifCond .eq 40, 3) := by decide +kernel
theorem dX11_out_8 : decode cX11_out 8 = .ok (.aload_n 0, 1) := by decide +kernel
theorem dX11_out_9 : decode cX11_out 9 = .ok (.iload_n 2, 1) := by decide +kernel
theorem dX11_out_10 : decode cX11_out 10 = .ok (.ifCond .eq 13, 3) := by decide +kernel
theorem dX11_out_13 : decode cX11_out 13 = .ok (.iload_n 2, 1) := by decide +kernel
theorem dX11_out_14 : decode cX11_out 14 = .ok (.iconst 2, 1) := by decide +kernel
theorem dX11_out_15 : decode cX11_out 15 = .ok (.bipush 8, 2) := by decide +kernel
theorem dX11_out_17 : decode cX11_out 17 = .ok (.invokestatic 276, 3) := by decide +kernel
theorem dX11_out_20 : decode cX11_out 20 = .ok (.ifCond .eq 13, 3) := by decide +kernel
theorem dX11_out_23 : decode cX11_out 23 = .ok (.iload_n 3, 1) := by decide +kernel
theorem dX11_out_24 : decode cX11_out 24 = .ok (.iconst 0, 1) := by decide +kernel
theorem dX11_out_25 : decode cX11_out 25 = .ok (.bipush 9, 2) := by decide +kernel
theorem dX11_out_27 : decode cX11_out 27 = .ok (.invokestatic 276, 3) := by decide +kernel
theorem dX11_out_30 : decode cX11_out 30 = .ok (.ifCond .ne 7, 3) := by decide +kernel
theorem dX11_out_33 : decode cX11_out 33 = .ok (.iconst 1, 1) := by decide +kernel
theorem dX11_out_34 : decode cX11_out 34 = .ok (.goto 4, 3) := by decide +kernel
theorem dX11_out_37 : decode cX11_out 37 = .ok (.iconst 0, 1) := by decide +kernel
theorem dX11_out_38 : decode cX11_out 38 = .ok (.iconst 2, 1) := by decide +kernel
theorem dX11_out_39 : decode cX11_out 39 = .ok (.invokevirtual 280, 3) := by decide +kernel
theorem dX11_out_42 : decode cX11_out 42 = .ok (.ifCond .eq 5, 3) := by decide +kernel
theorem dX11_out_45 : decode cX11_out 45 = .ok (.iconst 0, 1) := by decide +kernel
theorem dX11_out_46 : decode cX11_out 46 = .ok (.ireturn, 1) := by decide +kernel
theorem dX11_out_47 : decode cX11_out 47 = .ok (.iload_n 2, 1) := by decide +kernel
theorem dX11_out_48 : decode cX11_out 48 = .ok (.ifCond .ne 12, 3) := by decide +kernel
theorem dX11_out_51 : decode cX11_out 51 = .ok (.aload_n 0, 1) := by decide +kernel
theorem dX11_out_52 : decode cX11_out 52 = .ok (.iload_n 1, 1) := by decide +kernel
theorem dX11_out_53 : decode cX11_out 53 = .ok (.iconst 0, 1) := by decide +kernel
theorem dX11_out_54 : decode cX11_out 54 = .ok (.iconst 0, 1) := by decide +kernel
theorem dX11_out_55 : decode cX11_out 55 = .ok (.iload_n 3, 1) := by decide +kernel
theorem dX11_out_56 : decode cX11_out 56 = .ok (.invokevirtual 420, 3) := by decide +kernel
theorem dX11_out_59 : decode cX11_out 59 = .ok (.ireturn, 1) := by decide +kernel
theorem dX11_out_60 : decode cX11_out 60 = .ok (.iconst 0, 1) := by decide +kernel
theorem dX11_out_61 : decode cX11_out 61 = .ok (.istore 4, 2) := by decide +kernel
theorem dX11_out_63 : decode cX11_out 63 = .ok (.iconst 0, 1) := by decide +kernel
theorem dX11_out_64 : decode cX11_out 64 = .ok (.istore 5, 2) := by decide +kernel
theorem dX11_out_66 : decode cX11_out 66 = .ok (.iload 5, 2) := by decide +kernel
theorem dX11_out_68 : decode cX11_out 68 = .ok (.iload_n 2, 1) := by decide +kernel
theorem dX11_out_69 : decode cX11_out 69 = .ok (.if_icmp .ge 23, 3) := by decide +kernel
theorem dX11_out_72 : decode cX11_out 72 = .ok (.iload 4, 2) := by decide +kernel
theorem dX11_out_74 : decode cX11_out 74 = .ok (.aload_n 0, 1) := by decide +kernel
theorem dX11_out_75 : decode cX11_out 75 = .ok (.iload_n 1, 1) := by decide +kernel
theorem dX11_out_76 : decode cX11_out 76 = .ok (.iload_n 2, 1) := by decide +kernel
theorem dX11_out_77 : decode cX11_out 77 = .ok (.iload 5, 2) := by decide +kernel
theorem dX11_out_79 : decode cX11_out 79 = .ok (.iload_n 3, 1) := by decide +kernel
theorem dX11_out_80 : decode cX11_out 80 = .ok (.invokevirtual 420, 3) := by decide +kernel
theorem dX11_out_83 : decode cX11_out 83 = .ok (.iadd, 1) := by decide +kernel
theorem dX11_out_84 : decode cX11_out 84 = .ok (.istore 4, 2) := by decide +kernel
theorem dX11_out_86 : decode cX11_out 86 = .ok (.iinc 5 1, 3) := by decide +kernel
theorem dX11_out_89 : decode cX11_out 89 = .ok (.goto (-23), 3) := by decide +kernel
theorem dX11_out_92 : decode cX11_out 92 = .ok (.iload 4, 2) := by decide +kernel
theorem dX11_out_94 : decode cX11_out 94 = .ok (.ireturn, 1) := by decide +kernel
theorem dX11_held_0 : decode cX11_held 0 = .ok (.iconst 0, 1) := by decide +kernel
theorem dX11_held_1 : decode cX11_held 1 = .ok (.istore_n 1, 1) := by decide +kernel
theorem dX11_held_2 : decode cX11_held 2 = .ok (.iconst 0, 1) := by decide +kernel
theorem dX11_held_3 : decode cX11_held 3 = .ok (.istore_n 2, 1) := by decide +kernel
theorem dX11_held_4 : decode cX11_held 4 = .ok (.iload_n 2, 1) := by decide +kernel
theorem dX11_held_5 : decode cX11_held 5 = .ok (.bipush 120, 2) := by decide +kernel
theorem dX11_held_7 : decode cX11_held 7 = .ok (.if_icmp .ge 72, 3) := by decide +kernel
theorem dX11_held_10 : decode cX11_held 10 = .ok (.iload_n 1, 1) := by decide +kernel
theorem dX11_held_11 : decode cX11_held 11 = .ok (.aload_n 0, 1) := by decide +kernel
theorem dX11_held_12 : decode cX11_held 12 = .ok (.getfield 79, 3) := by decide +kernel
theorem dX11_held_15 : decode cX11_held 15 = .ok (.iload_n 2, 1) := by decide +kernel
theorem dX11_held_16 : decode cX11_held 16 = .ok (.iaload, 1) := by decide +kernel
theorem dX11_held_17 : decode cX11_held 17 = .ok (.iadd, 1) := by decide +kernel
theorem dX11_held_18 : decode cX11_held 18 = .ok (.istore_n 1, 1) := by decide +kernel
theorem dX11_held_19 : decode cX11_held 19 = .ok (.iload_n 1, 1) := by decide +kernel
theorem dX11_held_20 : decode cX11_held 20 = .ok (.aload_n 0, 1) := by decide +kernel
theorem dX11_held_21 : decode cX11_held 21 = .ok (.getfield 73, 3) := by decide +kernel
theorem dX11_held_24 : decode cX11_held 24 = .ok (.iload_n 2, 1) := by decide +kernel
theorem dX11_held_25 : decode cX11_held 25 = .ok (.iaload, 1) := by decide +kernel
theorem dX11_held_26 : decode cX11_held 26 = .ok (.iconst 1, 1) := by decide +kernel
theorem dX11_held_27 : decode cX11_held 27 = .ok (.if_icmp .eq 13, 3) := by decide +kernel
theorem dX11_held_30 : decode cX11_held 30 = .ok (.aload_n 0, 1) := by decide +kernel
theorem dX11_held_31 : decode cX11_held 31 = .ok (.getfield 73, 3) := by decide +kernel
theorem dX11_held_34 : decode cX11_held 34 = .ok (.iload_n 2, 1) := by decide +kernel
theorem dX11_held_35 : decode cX11_held 35 = .ok (.iaload, 1) := by decide +kernel
theorem dX11_held_36 : decode cX11_held 36 = .ok (.iconst 2, 1) := by decide +kernel
theorem dX11_held_37 : decode cX11_held 37 = .ok (.if_icmp .ne 12, 3) := by decide +kernel
theorem dX11_held_40 : decode cX11_held 40 = .ok (.aload_n 0, 1) := by decide +kernel
theorem dX11_held_41 : decode cX11_held 41 = .ok (.getfield 82, 3) := by decide +kernel
theorem dX11_held_44 : decode cX11_held 44 = .ok (.iload_n 2, 1) := by decide +kernel
theorem dX11_held_45 : decode cX11_held 45 = .ok (.iaload, 1) := by decide +kernel
theorem dX11_held_46 : decode cX11_held 46 = .ok (.goto 25, 3) := by decide +kernel
theorem dX11_held_49 : decode cX11_held 49 = .ok (.aload_n 0, 1) := by decide +kernel
theorem dX11_held_50 : decode cX11_held 50 = .ok (.getfield 73, 3) := by decide +kernel
theorem dX11_held_53 : decode cX11_held 53 = .ok (.iload_n 2, 1) := by decide +kernel
theorem dX11_held_54 : decode cX11_held 54 = .ok (.iaload, 1) := by decide +kernel
theorem dX11_held_55 : decode cX11_held 55 = .ok (.iconst 3, 1) := by decide +kernel
theorem dX11_held_56 : decode cX11_held 56 = .ok (.if_icmp .ne 14, 3) := by decide +kernel
theorem dX11_held_59 : decode cX11_held 59 = .ok (.iconst 2, 1) := by decide +kernel
theorem dX11_held_60 : decode cX11_held 60 = .ok (.aload_n 0, 1) := by decide +kernel
theorem dX11_held_61 : decode cX11_held 61 = .ok (.getfield 82, 3) := by decide +kernel
theorem dX11_held_64 : decode cX11_held 64 = .ok (.iload_n 2, 1) := by decide +kernel
theorem dX11_held_65 : decode cX11_held 65 = .ok (.iaload, 1) := by decide +kernel
theorem dX11_held_66 : decode cX11_held 66 = .ok (.imul, 1) := by decide +kernel
theorem dX11_held_67 : decode cX11_held 67 = .ok (.goto 4, 3) := by decide +kernel
theorem dX11_held_70 : decode cX11_held 70 = .ok (.iconst 0, 1) := by decide +kernel
theorem dX11_held_71 : decode cX11_held 71 = .ok (.iadd, 1) := by decide +kernel
theorem dX11_held_72 : decode cX11_held 72 = .ok (.istore_n 1, 1) := by decide +kernel
theorem dX11_held_73 : decode cX11_held 73 = .ok (.iinc 2 1, 3) := by decide +kernel
theorem dX11_held_76 : decode cX11_held 76 = .ok (.goto (-72), 3) := by decide +kernel
theorem dX11_held_79 : decode cX11_held 79 = .ok (.iload_n 1, 1) := by decide +kernel
theorem dX11_held_80 : decode cX11_held 80 = .ok (.ireturn, 1) := by decide +kernel
theorem dX11_count_0 : decode cX11_count 0 = .ok (.aload_n 0, 1) := by decide +kernel
theorem dX11_count_1 : decode cX11_count 1 = .ok (.iconst 0, 1) := by decide +kernel
theorem dX11_count_2 : decode cX11_count 2 = .ok (.putfield 151, 3) := by decide +kernel
theorem dX11_count_5 : decode cX11_count 5 = .ok (.iload_n 1, 1) := by decide +kernel
theorem dX11_count_6 : decode cX11_count 6 = .ok (.tableswitch 143 0 7 #[46, 51, 56, 61, 66, 71, 76, 81], 46) := by decide +kernel
theorem dX11_count_52 : decode cX11_count 52 = .ok (.aload_n 0, 1) := by decide +kernel
theorem dX11_count_53 : decode cX11_count 53 = .ok (.getfield 340, 3) := by decide +kernel
theorem dX11_count_56 : decode cX11_count 56 = .ok (.ireturn, 1) := by decide +kernel
theorem dX11_count_57 : decode cX11_count 57 = .ok (.aload_n 0, 1) := by decide +kernel
theorem dX11_count_58 : decode cX11_count 58 = .ok (.getfield 205, 3) := by decide +kernel
theorem dX11_count_61 : decode cX11_count 61 = .ok (.ireturn, 1) := by decide +kernel
theorem dX11_count_62 : decode cX11_count 62 = .ok (.aload_n 0, 1) := by decide +kernel
theorem dX11_count_63 : decode cX11_count 63 = .ok (.getfield 330, 3) := by decide +kernel
theorem dX11_count_66 : decode cX11_count 66 = .ok (.ireturn, 1) := by decide +kernel
theorem dX11_count_67 : decode cX11_count 67 = .ok (.aload_n 0, 1) := by decide +kernel
theorem dX11_count_68 : decode cX11_count 68 = .ok (.getfield 359, 3) := by decide +kernel
theorem dX11_count_71 : decode cX11_count 71 = .ok (.ireturn, 1) := by decide +kernel
theorem dX11_count_72 : decode cX11_count 72 = .ok (.aload_n 0, 1) := by decide +kernel
theorem dX11_count_73 : decode cX11_count 73 = .ok (.invokevirtual 423, 3) := by decide +kernel
theorem dX11_count_76 : decode cX11_count 76 = .ok (.ireturn, 1) := by decide +kernel
theorem dX11_count_77 : decode cX11_count 77 = .ok (.aload_n 0, 1) := by decide +kernel
theorem dX11_count_78 : decode cX11_count 78 = .ok (.getfield 375, 3) := by decide +kernel
theorem dX11_count_81 : decode cX11_count 81 = .ok (.ireturn, 1) := by decide +kernel
theorem dX11_count_82 : decode cX11_count 82 = .ok (.aload_n 0, 1) := by decide +kernel
theorem dX11_count_83 : decode cX11_count 83 = .ok (.getfield 154, 3) := by decide +kernel
theorem dX11_count_86 : decode cX11_count 86 = .ok (.ireturn, 1) := by decide +kernel
theorem dX11_count_87 : decode cX11_count 87 = .ok (.aload_n 0, 1) := by decide +kernel
theorem dX11_count_88 : decode cX11_count 88 = .ok (.getfield 359, 3) := by decide +kernel
theorem dX11_count_91 : decode cX11_count 91 = .ok (.aload_n 0, 1) := by decide +kernel
theorem dX11_count_92 : decode cX11_count 92 = .ok (.invokevirtual 423, 3) := by decide +kernel
theorem dX11_count_95 : decode cX11_count 95 = .ok (.iadd, 1) := by decide +kernel
theorem dX11_count_96 : decode cX11_count 96 = .ok (.istore_n 2, 1) := by decide +kernel
theorem dX11_count_97 : decode cX11_count 97 = .ok (.iconst 0, 1) := by decide +kernel
theorem dX11_count_98 : decode cX11_count 98 = .ok (.istore_n 3, 1) := by decide +kernel
theorem dX11_count_99 : decode cX11_count 99 = .ok (.iload_n 3, 1) := by decide +kernel
theorem dX11_count_100 : decode cX11_count 100 = .ok (.aload_n 0, 1) := by decide +kernel
theorem dX11_count_101 : decode cX11_count 101 = .ok (.getfield 205, 3) := by decide +kernel
theorem dX11_count_104 : decode cX11_count 104 = .ok (.if_icmp .ge 18, 3) := by decide +kernel
theorem dX11_count_107 : decode cX11_count 107 = .ok (.iload_n 2, 1) := by decide +kernel
theorem dX11_count_108 : decode cX11_count 108 = .ok (.aload_n 0, 1) := by decide +kernel
theorem dX11_count_109 : decode cX11_count 109 = .ok (.getfield 36, 3) := by decide +kernel
theorem dX11_count_112 : decode cX11_count 112 = .ok (.iload_n 3, 1) := by decide +kernel
theorem dX11_count_113 : decode cX11_count 113 = .ok (.iaload, 1) := by decide +kernel
theorem dX11_count_114 : decode cX11_count 114 = .ok (.iadd, 1) := by decide +kernel
theorem dX11_count_115 : decode cX11_count 115 = .ok (.istore_n 2, 1) := by decide +kernel
theorem dX11_count_116 : decode cX11_count 116 = .ok (.iinc 3 1, 3) := by decide +kernel
theorem dX11_count_119 : decode cX11_count 119 = .ok (.goto (-20), 3) := by decide +kernel
theorem dX11_count_122 : decode cX11_count 122 = .ok (.iconst 0, 1) := by decide +kernel
theorem dX11_count_123 : decode cX11_count 123 = .ok (.istore_n 3, 1) := by decide +kernel
theorem dX11_count_124 : decode cX11_count 124 = .ok (.iload_n 3, 1) := by decide +kernel
theorem dX11_count_125 : decode cX11_count 125 = .ok (.aload_n 0, 1) := by decide +kernel
theorem dX11_count_126 : decode cX11_count 126 = .ok (.getfield 330, 3) := by decide +kernel
theorem dX11_count_129 : decode cX11_count 129 = .ok (.if_icmp .ge 18, 3) := by decide +kernel
theorem dX11_count_132 : decode cX11_count 132 = .ok (.iload_n 2, 1) := by decide +kernel
theorem dX11_count_133 : decode cX11_count 133 = .ok (.aload_n 0, 1) := by decide +kernel
theorem dX11_count_134 : decode cX11_count 134 = .ok (.getfield 115, 3) := by decide +kernel
theorem dX11_count_137 : decode cX11_count 137 = .ok (.iload_n 3, 1) := by decide +kernel
theorem dX11_count_138 : decode cX11_count 138 = .ok (.iaload, 1) := by decide +kernel
theorem dX11_count_139 : decode cX11_count 139 = .ok (.iadd, 1) := by decide +kernel
theorem dX11_count_140 : decode cX11_count 140 = .ok (.istore_n 2, 1) := by decide +kernel
theorem dX11_count_141 : decode cX11_count 141 = .ok (.iinc 3 1, 3) := by decide +kernel
theorem dX11_count_144 : decode cX11_count 144 = .ok (.goto (-20), 3) := by decide +kernel
theorem dX11_count_147 : decode cX11_count 147 = .ok (.iload_n 2, 1) := by decide +kernel
theorem dX11_count_148 : decode cX11_count 148 = .ok (.ireturn, 1) := by decide +kernel
theorem dX11_count_149 : decode cX11_count 149 = .ok (.iconst (-1), 1) := by decide +kernel
theorem dX11_count_150 : decode cX11_count 150 = .ok (.ireturn, 1) := by decide +kernel
theorem dX11_purse_0 : decode cX11_purse 0 = .ok (.aload_n 0, 1) := by decide +kernel
theorem dX11_purse_1 : decode cX11_purse 1 = .ok (.iload_n 1, 1) := by decide +kernel
theorem dX11_purse_2 : decode cX11_purse 2 = .ok (.invokevirtual 284, 3) := by decide +kernel
theorem dX11_purse_5 : decode cX11_purse 5 = .ok (.ifCond .eq 12, 3) := by decide +kernel
theorem dX11_purse_8 : decode cX11_purse 8 = .ok (.aload_n 0, 1) := by decide +kernel
theorem dX11_purse_9 : decode cX11_purse 9 = .ok (.getfield 36, 3) := by decide +kernel
theorem dX11_purse_12 : decode cX11_purse 12 = .ok (.iload_n 1, 1) := by decide +kernel
theorem dX11_purse_13 : decode cX11_purse 13 = .ok (.iaload, 1) := by decide +kernel
theorem dX11_purse_14 : decode cX11_purse 14 = .ok (.goto 4, 3) := by decide +kernel
theorem dX11_purse_17 : decode cX11_purse 17 = .ok (.iconst 0, 1) := by decide +kernel
theorem dX11_purse_18 : decode cX11_purse 18 = .ok (.ireturn, 1) := by decide +kernel
