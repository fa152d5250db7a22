theorem dX2_init_0 : decode cX2_init 0 = .ok (.aload_n 0, 1) := by decide +kernel
theorem dX2_init_1 : decode cX2_init 1 = .ok (.invokespecial 3, 3) := by decide +kernel
theorem dX2_init_4 : decode cX2_init 4 = .ok (.aload_n 0, 1) := by decide +kernel
theorem dX2_init_5 : decode cX2_init 5 = .ok (.new 9, 3) := by decide +kernel
theorem dX2_init_8 : decode cX2_init 8 = .ok (.dup, 1) := by decide +kernel
theorem dX2_init_9 : decode cX2_init 9 = .ok (.invokespecial 11, 3) := by decide +kernel
theorem dX2_init_12 : decode cX2_init 12 = .ok (.putfield 12, 3) := by decide +kernel
theorem dX2_init_15 : decode cX2_init 15 = .ok (.aload_n 0, 1) := by decide +kernel
theorem dX2_init_16 : decode cX2_init 16 = .ok (.bipush 8, 2) := by decide +kernel
theorem dX2_init_18 : decode cX2_init 18 = .ok (.anewarray 18, 3) := by decide +kernel
theorem dX2_init_21 : decode cX2_init 21 = .ok (.putfield 20, 3) := by decide +kernel
theorem dX2_init_24 : decode cX2_init 24 = .ok (.aload_n 0, 1) := by decide +kernel
theorem dX2_init_25 : decode cX2_init 25 = .ok (.iconst 3, 1) := by decide +kernel
theorem dX2_init_26 : decode cX2_init 26 = .ok (.newarray .int, 2) := by decide +kernel
theorem dX2_init_28 : decode cX2_init 28 = .ok (.putfield 24, 3) := by decide +kernel
theorem dX2_init_31 : decode cX2_init 31 = .ok (.iconst 0, 1) := by decide +kernel
theorem dX2_init_32 : decode cX2_init 32 = .ok (.istore_n 1, 1) := by decide +kernel
theorem dX2_init_33 : decode cX2_init 33 = .ok (.iload_n 1, 1) := by decide +kernel
theorem dX2_init_34 : decode cX2_init 34 = .ok (.bipush 8, 2) := by decide +kernel
theorem dX2_init_36 : decode cX2_init 36 = .ok (.if_icmp .ge 22, 3) := by decide +kernel
theorem dX2_init_39 : decode cX2_init 39 = .ok (.aload_n 0, 1) := by decide +kernel
theorem dX2_init_40 : decode cX2_init 40 = .ok (.getfield 20, 3) := by decide +kernel
theorem dX2_init_43 : decode cX2_init 43 = .ok (.iload_n 1, 1) := by decide +kernel
theorem dX2_init_44 : decode cX2_init 44 = .ok (.new 18, 3) := by decide +kernel
theorem dX2_init_47 : decode cX2_init 47 = .ok (.dup, 1) := by decide +kernel
theorem dX2_init_48 : decode cX2_init 48 = .ok (.invokespecial 28, 3) := by decide +kernel
theorem dX2_init_51 : decode cX2_init 51 = .ok (.aastore, 1) := by decide +kernel
theorem dX2_init_52 : decode cX2_init 52 = .ok (.iinc 1 1, 3) := by decide +kernel
theorem dX2_init_55 : decode cX2_init 55 = .ok (.goto (-22), 3) := by decide +kernel
theorem dX2_init_58 : decode cX2_init 58 = .ok (.aload_n 0, 1) := by decide +kernel
theorem dX2_init_59 : decode cX2_init 59 = .ok (.getfield 24, 3) := by decide +kernel
theorem dX2_init_62 : decode cX2_init 62 = .ok (.iconst 0, 1) := by decide +kernel
theorem dX2_init_63 : decode cX2_init 63 = .ok (.bipush 10, 2) := by decide +kernel
theorem dX2_init_65 : decode cX2_init 65 = .ok (.iastore, 1) := by decide +kernel
theorem dX2_init_66 : decode cX2_init 66 = .ok (.aload_n 0, 1) := by decide +kernel
theorem dX2_init_67 : decode cX2_init 67 = .ok (.getfield 24, 3) := by decide +kernel
theorem dX2_init_70 : decode cX2_init 70 = .ok (.iconst 1, 1) := by decide +kernel
theorem dX2_init_71 : decode cX2_init 71 = .ok (.iconst 5, 1) := by decide +kernel
theorem dX2_init_72 : decode cX2_init 72 = .ok (.iastore, 1) := by decide +kernel
theorem dX2_init_73 : decode cX2_init 73 = .ok (.aload_n 0, 1) := by decide +kernel
theorem dX2_init_74 : decode cX2_init 74 = .ok (.getfield 24, 3) := by decide +kernel
theorem dX2_init_77 : decode cX2_init 77 = .ok (.iconst 2, 1) := by decide +kernel
theorem dX2_init_78 : decode cX2_init 78 = .ok (.bipush 50, 2) := by decide +kernel
theorem dX2_init_80 : decode cX2_init 80 = .ok (.iastore, 1) := by decide +kernel
theorem dX2_init_81 : decode cX2_init 81 = .ok (.return_, 1) := by decide +kernel
theorem dX2_pay_0 : decode cX2_pay 0 = .ok (.iload_n 1, 1) := by decide +kernel
theorem dX2_pay_1 : decode cX2_pay 1 = .ok (.iconst 0, 1) := by decide +kernel
theorem dX2_pay_2 : decode cX2_pay 2 = .ok (.bipush 7, 2) := by decide +kernel
theorem dX2_pay_4 : decode cX2_pay 4 = .ok (.invokestatic 29, 3) := by decide +kernel
theorem dX2_pay_7 : decode cX2_pay 7 = .ok (.ifCond .eq 18, 3) := by decide +kernel
theorem dX2_pay_10 : decode cX2_pay 10 = .ok (.aload_n 0, 1) := by decide +kernel
theorem dX2_pay_11 : decode cX2_pay 11 = .ok (.getfield 20, 3) := by decide +kernel
theorem dX2_pay_14 : decode cX2_pay 14 = .ok (.iload_n 1, 1) := by decide +kernel
theorem dX2_pay_15 : decode cX2_pay 15 = .ok (.aaload, 1) := by decide +kernel
theorem dX2_pay_16 : decode cX2_pay 16 = .ok (.dup, 1) := by decide +kernel
theorem dX2_pay_17 : decode cX2_pay 17 = .ok (.getfield 33, 3) := by decide +kernel
theorem dX2_pay_20 : decode cX2_pay 20 = .ok (.iload_n 2, 1) := by decide +kernel
theorem dX2_pay_21 : decode cX2_pay 21 = .ok (.iadd, 1) := by decide +kernel
theorem dX2_pay_22 : decode cX2_pay 22 = .ok (.putfield 33, 3) := by decide +kernel
theorem dX2_pay_25 : decode cX2_pay 25 = .ok (.return_, 1) := by decide +kernel
theorem dX2_countLie_0 : decode cX2_countLie 0 = .ok (.iload_n 1, 1) := by decide +kernel
theorem dX2_countLie_1 : decode cX2_countLie 1 = .ok (.iconst 0, 1) := by decide +kernel
theorem dX2_countLie_2 : decode cX2_countLie 2 = .ok (.bipush 7, 2) := by decide +kernel
theorem dX2_countLie_4 : decode cX2_countLie 4 = .ok (.invokestatic 29, 3) := by decide +kernel
theorem dX2_countLie_7 : decode cX2_countLie 7 = .ok (.ifCond .eq 18, 3) := by decide +kernel
theorem dX2_countLie_10 : decode cX2_countLie 10 = .ok (.aload_n 0, 1) := by decide +kernel
theorem dX2_countLie_11 : decode cX2_countLie 11 = .ok (.getfield 20, 3) := by decide +kernel
theorem dX2_countLie_14 : decode cX2_countLie 14 = .ok (.iload_n 1, 1) := by decide +kernel
theorem dX2_countLie_15 : decode cX2_countLie 15 = .ok (.aaload, 1) := by decide +kernel
theorem dX2_countLie_16 : decode cX2_countLie 16 = .ok (.dup, 1) := by decide +kernel
theorem dX2_countLie_17 : decode cX2_countLie 17 = .ok (.getfield 37, 3) := by decide +kernel
theorem dX2_countLie_20 : decode cX2_countLie 20 = .ok (.iconst 1, 1) := by decide +kernel
theorem dX2_countLie_21 : decode cX2_countLie 21 = .ok (.iadd, 1) := by decide +kernel
theorem dX2_countLie_22 : decode cX2_countLie 22 = .ok (.putfield 37, 3) := by decide +kernel
theorem dX2_countLie_25 : decode cX2_countLie 25 = .ok (.return_, 1) := by decide +kernel
theorem dX2_beginQuarrel_0 : decode cX2_beginQuarrel 0 = .ok (.aload_n 1, 1) := by decide +kernel
theorem dX2_beginQuarrel_1 : decode cX2_beginQuarrel 1 = .ok (.iload_n 2, 1) := by decide +kernel
theorem dX2_beginQuarrel_2 : decode cX2_beginQuarrel 2 = .ok (.invokevirtual 40, 3) := by decide +kernel
theorem dX2_beginQuarrel_5 : decode cX2_beginQuarrel 5 = .ok (.ifCond .ne 4, 3) := by decide +kernel
theorem dX2_beginQuarrel_8 : decode cX2_beginQuarrel 8 = .ok (.return_, 1) := by decide +kernel
theorem dX2_beginQuarrel_9 : decode cX2_beginQuarrel 9 = .ok (.aload_n 1, 1) := by decide +kernel
theorem dX2_beginQuarrel_10 : decode cX2_beginQuarrel 10 = .ok (.getfield 46, 3) := by decide +kernel
theorem dX2_beginQuarrel_13 : decode cX2_beginQuarrel 13 = .ok (.iload_n 2, 1) := by decide +kernel
theorem dX2_beginQuarrel_14 : decode cX2_beginQuarrel 14 = .ok (.aaload, 1) := by decide +kernel
theorem dX2_beginQuarrel_15 : decode cX2_beginQuarrel 15 = .ok (.astore 5, 2) := by decide +kernel
theorem dX2_beginQuarrel_17 : decode cX2_beginQuarrel 17 = .ok (.iload_n 2, 1) := by decide +kernel
theorem dX2_beginQuarrel_18 : decode cX2_beginQuarrel 18 = .ok (.ifCond .le 17, 3) := by decide +kernel
theorem dX2_beginQuarrel_21 : decode cX2_beginQuarrel 21 = .ok (.aload_n 1, 1) := by decide +kernel
theorem dX2_beginQuarrel_22 : decode cX2_beginQuarrel 22 = .ok (.getfield 46, 3) := by decide +kernel
theorem dX2_beginQuarrel_25 : decode cX2_beginQuarrel 25 = .ok (.iload_n 2, 1) := by decide +kernel
theorem dX2_beginQuarrel_26 : decode cX2_beginQuarrel 26 = .ok (.iconst 1, 1) := by decide +kernel
theorem dX2_beginQuarrel_27 : decode cX2_beginQuarrel 27 = .ok (.isub, 1) := by decide +kernel
theorem dX2_beginQuarrel_28 : decode cX2_beginQuarrel 28 = .ok (.aaload, 1) := by decide +kernel
theorem dX2_beginQuarrel_29 : decode cX2_beginQuarrel 29 = .ok (.getfield 50, 3) := by decide +kernel
theorem dX2_beginQuarrel_32 : decode cX2_beginQuarrel 32 = .ok (.goto 12, 3) := by decide +kernel
theorem dX2_beginQuarrel_35 : decode cX2_beginQuarrel 35 = .ok (.aload_n 0, 1) := by decide +kernel
theorem dX2_beginQuarrel_36 : decode cX2_beginQuarrel 36 = .ok (.getfield 12, 3) := by decide +kernel
theorem dX2_beginQuarrel_39 : decode cX2_beginQuarrel 39 = .ok (.aload_n 1, 1) := by decide +kernel
theorem dX2_beginQuarrel_40 : decode cX2_beginQuarrel 40 = .ok (.iconst 0, 1) := by decide +kernel
theorem dX2_beginQuarrel_41 : decode cX2_beginQuarrel 41 = .ok (.invokevirtual 55, 3) := by decide +kernel
theorem dX2_beginQuarrel_44 : decode cX2_beginQuarrel 44 = .ok (.istore 6, 2) := by decide +kernel
theorem dX2_beginQuarrel_46 : decode cX2_beginQuarrel 46 = .ok (.aload 5, 2) := by decide +kernel
theorem dX2_beginQuarrel_48 : decode cX2_beginQuarrel 48 = .ok (.iconst 3, 1) := by decide +kernel
theorem dX2_beginQuarrel_49 : decode cX2_beginQuarrel 49 = .ok (.putfield 59, 3) := by decide +kernel
theorem dX2_beginQuarrel_52 : decode cX2_beginQuarrel 52 = .ok (.aload 5, 2) := by decide +kernel
theorem dX2_beginQuarrel_54 : decode cX2_beginQuarrel 54 = .ok (.getfield 62, 3) := by decide +kernel
theorem dX2_beginQuarrel_57 : decode cX2_beginQuarrel 57 = .ok (.iload_n 3, 1) := by decide +kernel
theorem dX2_beginQuarrel_58 : decode cX2_beginQuarrel 58 = .ok (.aload_n 0, 1) := by decide +kernel
theorem dX2_beginQuarrel_59 : decode cX2_beginQuarrel 59 = .ok (.getfield 66, 3) := by decide +kernel
theorem dX2_beginQuarrel_62 : decode cX2_beginQuarrel 62 = .ok (.invokevirtual 69, 3) := by decide +kernel
theorem dX2_beginQuarrel_65 : decode cX2_beginQuarrel 65 = .ok (.aload 5, 2) := by decide +kernel
theorem dX2_beginQuarrel_67 : decode cX2_beginQuarrel 67 = .ok (.getfield 62, 3) := by decide +kernel
theorem dX2_beginQuarrel_70 : decode cX2_beginQuarrel 70 = .ok (.aload 5, 2) := by decide +kernel
theorem dX2_beginQuarrel_72 : decode cX2_beginQuarrel 72 = .ok (.getfield 75, 3) := by decide +kernel
theorem dX2_beginQuarrel_75 : decode cX2_beginQuarrel 75 = .ok (.iload 6, 2) := by decide +kernel
theorem dX2_beginQuarrel_77 : decode cX2_beginQuarrel 77 = .ok (.invokevirtual 78, 3) := by decide +kernel
theorem dX2_beginQuarrel_80 : decode cX2_beginQuarrel 80 = .ok (.aload 5, 2) := by decide +kernel
theorem dX2_beginQuarrel_82 : decode cX2_beginQuarrel 82 = .ok (.getfield 62, 3) := by decide +kernel
theorem dX2_beginQuarrel_85 : decode cX2_beginQuarrel 85 = .ok (.aload 5, 2) := by decide +kernel
theorem dX2_beginQuarrel_87 : decode cX2_beginQuarrel 87 = .ok (.getfield 81, 3) := by decide +kernel
theorem dX2_beginQuarrel_90 : decode cX2_beginQuarrel 90 = .ok (.aload 5, 2) := by decide +kernel
theorem dX2_beginQuarrel_92 : decode cX2_beginQuarrel 92 = .ok (.getfield 50, 3) := by decide +kernel
theorem dX2_beginQuarrel_95 : decode cX2_beginQuarrel 95 = .ok (.iload 4, 2) := by decide +kernel
theorem dX2_beginQuarrel_97 : decode cX2_beginQuarrel 97 = .ok (.invokevirtual 84, 3) := by decide +kernel
theorem dX2_beginQuarrel_100 : decode cX2_beginQuarrel 100 = .ok (.return_, 1) := by decide +kernel
theorem dX2_judgeIfNarrow_0 : decode cX2_judgeIfNarrow 0 = .ok (.aload_n 1, 1) := by decide +kernel
theorem dX2_judgeIfNarrow_1 : decode cX2_judgeIfNarrow 1 = .ok (.iload_n 2, 1) := by decide +kernel
theorem dX2_judgeIfNarrow_2 : decode cX2_judgeIfNarrow 2 = .ok (.invokevirtual 40, 3) := by decide +kernel
theorem dX2_judgeIfNarrow_5 : decode cX2_judgeIfNarrow 5 = .ok (.ifCond .eq 18, 3) := by decide +kernel
theorem dX2_judgeIfNarrow_8 : decode cX2_judgeIfNarrow 8 = .ok (.aload_n 1, 1) := by decide +kernel
theorem dX2_judgeIfNarrow_9 : decode cX2_judgeIfNarrow 9 = .ok (.getfield 46, 3) := by decide +kernel
theorem dX2_judgeIfNarrow_12 : decode cX2_judgeIfNarrow 12 = .ok (.iload_n 2, 1) := by decide +kernel
theorem dX2_judgeIfNarrow_13 : decode cX2_judgeIfNarrow 13 = .ok (.aaload, 1) := by decide +kernel
theorem dX2_judgeIfNarrow_14 : decode cX2_judgeIfNarrow 14 = .ok (.getfield 62, 3) := by decide +kernel
theorem dX2_judgeIfNarrow_17 : decode cX2_judgeIfNarrow 17 = .ok (.invokevirtual 88, 3) := by decide +kernel
theorem dX2_judgeIfNarrow_20 : decode cX2_judgeIfNarrow 20 = .ok (.ifCond .ne 5, 3) := by decide +kernel
theorem dX2_judgeIfNarrow_23 : decode cX2_judgeIfNarrow 23 = .ok (.iconst 0, 1) := by decide +kernel
theorem dX2_judgeIfNarrow_24 : decode cX2_judgeIfNarrow 24 = .ok (.ireturn, 1) := by decide +kernel
theorem dX2_judgeIfNarrow_25 : decode cX2_judgeIfNarrow 25 = .ok (.aload_n 1, 1) := by decide +kernel
theorem dX2_judgeIfNarrow_26 : decode cX2_judgeIfNarrow 26 = .ok (.getfield 46, 3) := by decide +kernel
theorem dX2_judgeIfNarrow_29 : decode cX2_judgeIfNarrow 29 = .ok (.iload_n 2, 1) := by decide +kernel
theorem dX2_judgeIfNarrow_30 : decode cX2_judgeIfNarrow 30 = .ok (.aaload, 1) := by decide +kernel
theorem dX2_judgeIfNarrow_31 : decode cX2_judgeIfNarrow 31 = .ok (.getfield 62, 3) := by decide +kernel
theorem dX2_judgeIfNarrow_34 : decode cX2_judgeIfNarrow 34 = .ok (.astore_n 3, 1) := by decide +kernel
theorem dX2_judgeIfNarrow_35 : decode cX2_judgeIfNarrow 35 = .ok (.aload_n 0, 1) := by decide +kernel
theorem dX2_judgeIfNarrow_36 : decode cX2_judgeIfNarrow 36 = .ok (.getfield 12, 3) := by decide +kernel
theorem dX2_judgeIfNarrow_39 : decode cX2_judgeIfNarrow 39 = .ok (.aload_n 1, 1) := by decide +kernel
theorem dX2_judgeIfNarrow_40 : decode cX2_judgeIfNarrow 40 = .ok (.aload_n 3, 1) := by decide +kernel
theorem dX2_judgeIfNarrow_41 : decode cX2_judgeIfNarrow 41 = .ok (.getfield 92, 3) := by decide +kernel
theorem dX2_judgeIfNarrow_44 : decode cX2_judgeIfNarrow 44 = .ok (.invokevirtual 55, 3) := by decide +kernel
theorem dX2_judgeIfNarrow_47 : decode cX2_judgeIfNarrow 47 = .ok (.aload_n 3, 1) := by decide +kernel
theorem dX2_judgeIfNarrow_48 : decode cX2_judgeIfNarrow 48 = .ok (.getfield 95, 3) := by decide +kernel
theorem dX2_judgeIfNarrow_51 : decode cX2_judgeIfNarrow 51 = .ok (.if_icmp .ne 7, 3) := by decide +kernel
theorem dX2_judgeIfNarrow_54 : decode cX2_judgeIfNarrow 54 = .ok (.iconst 1, 1) := by decide +kernel
theorem dX2_judgeIfNarrow_55 : decode cX2_judgeIfNarrow 55 = .ok (.goto 4, 3) := by decide +kernel
theorem dX2_judgeIfNarrow_58 : decode cX2_judgeIfNarrow 58 = .ok (.iconst 0, 1) := by decide +kernel
theorem dX2_judgeIfNarrow_59 : decode cX2_judgeIfNarrow 59 = .ok (.istore 4, 2) := by decide +kernel
theorem dX2_judgeIfNarrow_61 : decode cX2_judgeIfNarrow 61 = .ok (.aload_n 0, 1) := by decide +kernel
theorem dX2_judgeIfNarrow_62 : decode cX2_judgeIfNarrow 62 = .ok (.getfield 12, 3) := by decide +kernel
theorem dX2_judgeIfNarrow_65 : decode cX2_judgeIfNarrow 65 = .ok (.aload_n 1, 1) := by decide +kernel
theorem dX2_judgeIfNarrow_66 : decode cX2_judgeIfNarrow 66 = .ok (.aload_n 3, 1) := by decide +kernel
theorem dX2_judgeIfNarrow_67 : decode cX2_judgeIfNarrow 67 = .ok (.getfield 98, 3) := by decide +kernel
theorem dX2_judgeIfNarrow_70 : decode cX2_judgeIfNarrow 70 = .ok (.invokevirtual 55, 3) := by decide +kernel
theorem dX2_judgeIfNarrow_73 : decode cX2_judgeIfNarrow 73 = .ok (.istore 5, 2) := by decide +kernel
theorem dX2_judgeIfNarrow_75 : decode cX2_judgeIfNarrow 75 = .ok (.aload_n 0, 1) := by decide +kernel
theorem dX2_judgeIfNarrow_76 : decode cX2_judgeIfNarrow 76 = .ok (.aload_n 1, 1) := by decide +kernel
theorem dX2_judgeIfNarrow_77 : decode cX2_judgeIfNarrow 77 = .ok (.iload_n 2, 1) := by decide +kernel
theorem dX2_judgeIfNarrow_78 : decode cX2_judgeIfNarrow 78 = .ok (.iload 4, 2) := by decide +kernel
theorem dX2_judgeIfNarrow_80 : decode cX2_judgeIfNarrow 80 = .ok (.ifCond .eq 16, 3) := by decide +kernel
theorem dX2_judgeIfNarrow_83 : decode cX2_judgeIfNarrow 83 = .ok (.aload_n 3, 1) := by decide +kernel
theorem dX2_judgeIfNarrow_84 : decode cX2_judgeIfNarrow 84 = .ok (.getfield 101, 3) := by decide +kernel
theorem dX2_judgeIfNarrow_87 : decode cX2_judgeIfNarrow 87 = .ok (.iload 5, 2) := by decide +kernel
theorem dX2_judgeIfNarrow_89 : decode cX2_judgeIfNarrow 89 = .ok (.if_icmp .ne 7, 3) := by decide +kernel
theorem dX2_judgeIfNarrow_92 : decode cX2_judgeIfNarrow 92 = .ok (.iconst 1, 1) := by decide +kernel
theorem dX2_judgeIfNarrow_93 : decode cX2_judgeIfNarrow 93 = .ok (.goto 4, 3) := by decide +kernel
theorem dX2_judgeIfNarrow_96 : decode cX2_judgeIfNarrow 96 = .ok (.iconst 0, 1) := by decide +kernel
theorem dX2_judgeIfNarrow_97 : decode cX2_judgeIfNarrow 97 = .ok (.iload 4, 2) := by decide +kernel
theorem dX2_judgeIfNarrow_99 : decode cX2_judgeIfNarrow 99 = .ok (.ifCond .eq 16, 3) := by decide +kernel
theorem dX2_judgeIfNarrow_102 : decode cX2_judgeIfNarrow 102 = .ok (.aload_n 3, 1) := by decide +kernel
theorem dX2_judgeIfNarrow_103 : decode cX2_judgeIfNarrow 103 = .ok (.getfield 104, 3) := by decide +kernel
theorem dX2_judgeIfNarrow_106 : decode cX2_judgeIfNarrow 106 = .ok (.iload 5, 2) := by decide +kernel
theorem dX2_judgeIfNarrow_108 : decode cX2_judgeIfNarrow 108 = .ok (.if_icmp .ne 7, 3) := by decide +kernel
theorem dX2_judgeIfNarrow_111 : decode cX2_judgeIfNarrow 111 = .ok (.iconst 1, 1) := by decide +kernel
theorem dX2_judgeIfNarrow_112 : decode cX2_judgeIfNarrow 112 = .ok (.goto 4, 3) := by decide +kernel
theorem dX2_judgeIfNarrow_115 : decode cX2_judgeIfNarrow 115 = .ok (.iconst 0, 1) := by decide +kernel
theorem dX2_judgeIfNarrow_116 : decode cX2_judgeIfNarrow 116 = .ok (.invokevirtual 107, 3) := by decide +kernel
theorem dX2_judgeIfNarrow_119 : decode cX2_judgeIfNarrow 119 = .ok (.iconst 1, 1) := by decide +kernel
theorem dX2_judgeIfNarrow_120 : decode cX2_judgeIfNarrow 120 = .ok (.ireturn, 1) := by decide +kernel
theorem dX2_settle_0 : decode cX2_settle 0 = .ok (.aload_n 1, 1) := by decide +kernel
theorem dX2_settle_1 : decode cX2_settle 1 = .ok (.iload_n 2, 1) := by decide +kernel
theorem dX2_settle_2 : decode cX2_settle 2 = .ok (.invokevirtual 40, 3) := by decide +kernel
theorem dX2_settle_5 : decode cX2_settle 5 = .ok (.ifCond .ne 4, 3) := by decide +kernel
theorem dX2_settle_8 : decode cX2_settle 8 = .ok (.return_, 1) := by decide +kernel
theorem dX2_settle_9 : decode cX2_settle 9 = .ok (.aload_n 1, 1) := by decide +kernel
theorem dX2_settle_10 : decode cX2_settle 10 = .ok (.getfield 46, 3) := by decide +kernel
theorem dX2_settle_13 : decode cX2_settle 13 = .ok (.iload_n 2, 1) := by decide +kernel
theorem dX2_settle_14 : decode cX2_settle 14 = .ok (.aaload, 1) := by decide +kernel
theorem dX2_settle_15 : decode cX2_settle 15 = .ok (.astore 5, 2) := by decide +kernel
theorem dX2_settle_17 : decode cX2_settle 17 = .ok (.aload 5, 2) := by decide +kernel
theorem dX2_settle_19 : decode cX2_settle 19 = .ok (.getfield 62, 3) := by decide +kernel
theorem dX2_settle_22 : decode cX2_settle 22 = .ok (.getfield 111, 3) := by decide +kernel
theorem dX2_settle_25 : decode cX2_settle 25 = .ok (.istore 6, 2) := by decide +kernel
theorem dX2_settle_27 : decode cX2_settle 27 = .ok (.iload_n 3, 1) := by decide +kernel
theorem dX2_settle_28 : decode cX2_settle 28 = .ok (.ifCond .ne 12, 3) := by decide +kernel
theorem dX2_settle_31 : decode cX2_settle 31 = .ok (.aload_n 0, 1) := by decide +kernel
theorem dX2_settle_32 : decode cX2_settle 32 = .ok (.aload 5, 2) := by decide +kernel
theorem dX2_settle_34 : decode cX2_settle 34 = .ok (.getfield 114, 3) := by decide +kernel
theorem dX2_settle_37 : decode cX2_settle 37 = .ok (.invokevirtual 117, 3) := by decide +kernel
theorem dX2_settle_40 : decode cX2_settle 40 = .ok (.iload 4, 2) := by decide +kernel
theorem dX2_settle_42 : decode cX2_settle 42 = .ok (.ifCond .ne 9, 3) := by decide +kernel
theorem dX2_settle_45 : decode cX2_settle 45 = .ok (.aload_n 0, 1) := by decide +kernel
theorem dX2_settle_46 : decode cX2_settle 46 = .ok (.iload 6, 2) := by decide +kernel
theorem dX2_settle_48 : decode cX2_settle 48 = .ok (.invokevirtual 117, 3) := by decide +kernel
theorem dX2_settle_51 : decode cX2_settle 51 = .ok (.iload_n 3, 1) := by decide +kernel
theorem dX2_settle_52 : decode cX2_settle 52 = .ok (.ifCond .eq 24, 3) := by decide +kernel
theorem dX2_settle_55 : decode cX2_settle 55 = .ok (.aload_n 0, 1) := by decide +kernel
theorem dX2_settle_56 : decode cX2_settle 56 = .ok (.aload 5, 2) := by decide +kernel
theorem dX2_settle_58 : decode cX2_settle 58 = .ok (.getfield 114, 3) := by decide +kernel
theorem dX2_settle_61 : decode cX2_settle 61 = .ok (.aload 5, 2) := by decide +kernel
theorem dX2_settle_63 : decode cX2_settle 63 = .ok (.getfield 121, 3) := by decide +kernel
theorem dX2_settle_66 : decode cX2_settle 66 = .ok (.invokevirtual 124, 3) := by decide +kernel
theorem dX2_settle_69 : decode cX2_settle 69 = .ok (.aload_n 0, 1) := by decide +kernel
theorem dX2_settle_70 : decode cX2_settle 70 = .ok (.aload_n 1, 1) := by decide +kernel
theorem dX2_settle_71 : decode cX2_settle 71 = .ok (.iload_n 2, 1) := by decide +kernel
theorem dX2_settle_72 : decode cX2_settle 72 = .ok (.invokevirtual 127, 3) := by decide +kernel
theorem dX2_settle_75 : decode cX2_settle 75 = .ok (.return_, 1) := by decide +kernel
theorem dX2_settle_76 : decode cX2_settle 76 = .ok (.iload 4, 2) := by decide +kernel
theorem dX2_settle_78 : decode cX2_settle 78 = .ok (.ifCond .eq 17, 3) := by decide +kernel
theorem dX2_settle_81 : decode cX2_settle 81 = .ok (.aload_n 0, 1) := by decide +kernel
theorem dX2_settle_82 : decode cX2_settle 82 = .ok (.iload 6, 2) := by decide +kernel
theorem dX2_settle_84 : decode cX2_settle 84 = .ok (.aload 5, 2) := by decide +kernel
theorem dX2_settle_86 : decode cX2_settle 86 = .ok (.getfield 121, 3) := by decide +kernel
theorem dX2_settle_89 : decode cX2_settle 89 = .ok (.invokevirtual 124, 3) := by decide +kernel
theorem dX2_settle_92 : decode cX2_settle 92 = .ok (.goto 19, 3) := by decide +kernel
theorem dX2_settle_95 : decode cX2_settle 95 = .ok (.aload_n 0, 1) := by decide +kernel
theorem dX2_settle_96 : decode cX2_settle 96 = .ok (.dup, 1) := by decide +kernel
theorem dX2_settle_97 : decode cX2_settle 97 = .ok (.getfield 131, 3) := by decide +kernel
theorem dX2_settle_100 : decode cX2_settle 100 = .ok (.iconst 2, 1) := by decide +kernel
theorem dX2_settle_101 : decode cX2_settle 101 = .ok (.aload 5, 2) := by decide +kernel
theorem dX2_settle_103 : decode cX2_settle 103 = .ok (.getfield 121, 3) := by decide +kernel
theorem dX2_settle_106 : decode cX2_settle 106 = .ok (.imul, 1) := by decide +kernel
theorem dX2_settle_107 : decode cX2_settle 107 = .ok (.iadd, 1) := by decide +kernel
theorem dX2_settle_108 : decode cX2_settle 108 = .ok (.putfield 131, 3) := by decide +kernel
theorem dX2_settle_111 : decode cX2_settle 111 = .ok (.aload_n 0, 1) := by decide +kernel
theorem dX2_settle_112 : decode cX2_settle 112 = .ok (.aload_n 1, 1) := by decide +kernel
theorem dX2_settle_113 : decode cX2_settle 113 = .ok (.iload_n 2, 1) := by decide +kernel
theorem dX2_settle_114 : decode cX2_settle 114 = .ok (.invokevirtual 134, 3) := by decide +kernel
theorem dX2_settle_117 : decode cX2_settle 117 = .ok (.return_, 1) := by decide +kernel
theorem dX2_reward_0 : decode cX2_reward 0 = .ok (.iload_n 2, 1) := by decide +kernel
theorem dX2_reward_1 : decode cX2_reward 1 = .ok (.i2l, 1) := by decide +kernel
theorem dX2_reward_2 : decode cX2_reward 2 = .ok (.aload_n 0, 1) := by decide +kernel
theorem dX2_reward_3 : decode cX2_reward 3 = .ok (.getfield 24, 3) := by decide +kernel
theorem dX2_reward_6 : decode cX2_reward 6 = .ok (.iconst 2, 1) := by decide +kernel
theorem dX2_reward_7 : decode cX2_reward 7 = .ok (.iaload, 1) := by decide +kernel
theorem dX2_reward_8 : decode cX2_reward 8 = .ok (.i2l, 1) := by decide +kernel
theorem dX2_reward_9 : decode cX2_reward 9 = .ok (.lmul, 1) := by decide +kernel
theorem dX2_reward_10 : decode cX2_reward 10 = .ok (.ldc2_w 137, 3) := by decide +kernel
theorem dX2_reward_13 : decode cX2_reward 13 = .ok (.ldiv, 1) := by decide +kernel
theorem dX2_reward_14 : decode cX2_reward 14 = .ok (.l2i, 1) := by decide +kernel
theorem dX2_reward_15 : decode cX2_reward 15 = .ok (.istore_n 3, 1) := by decide +kernel
theorem dX2_reward_16 : decode cX2_reward 16 = .ok (.aload_n 0, 1) := by decide +kernel
theorem dX2_reward_17 : decode cX2_reward 17 = .ok (.iload_n 1, 1) := by decide +kernel
theorem dX2_reward_18 : decode cX2_reward 18 = .ok (.iload_n 2, 1) := by decide +kernel
theorem dX2_reward_19 : decode cX2_reward 19 = .ok (.iload_n 3, 1) := by decide +kernel
theorem dX2_reward_20 : decode cX2_reward 20 = .ok (.iadd, 1) := by decide +kernel
theorem dX2_reward_21 : decode cX2_reward 21 = .ok (.invokevirtual 139, 3) := by decide +kernel
theorem dX2_reward_24 : decode cX2_reward 24 = .ok (.aload_n 0, 1) := by decide +kernel
theorem dX2_reward_25 : decode cX2_reward 25 = .ok (.dup, 1) := by decide +kernel
theorem dX2_reward_26 : decode cX2_reward 26 = .ok (.getfield 131, 3) := by decide +kernel
theorem dX2_reward_29 : decode cX2_reward 29 = .ok (.iload_n 2, 1) := by decide +kernel
theorem dX2_reward_30 : decode cX2_reward 30 = .ok (.iload_n 3, 1) := by decide +kernel
theorem dX2_reward_31 : decode cX2_reward 31 = .ok (.isub, 1) := by decide +kernel
theorem dX2_reward_32 : decode cX2_reward 32 = .ok (.iadd, 1) := by decide +kernel
theorem dX2_reward_33 : decode cX2_reward 33 = .ok (.putfield 131, 3) := by decide +kernel
theorem dX2_reward_36 : decode cX2_reward 36 = .ok (.return_, 1) := by decide +kernel
theorem dX2_stay_0 : decode cX2_stay 0 = .ok (.aload_n 1, 1) := by decide +kernel
theorem dX2_stay_1 : decode cX2_stay 1 = .ok (.iload_n 2, 1) := by decide +kernel
theorem dX2_stay_2 : decode cX2_stay 2 = .ok (.invokevirtual 40, 3) := by decide +kernel
theorem dX2_stay_5 : decode cX2_stay 5 = .ok (.ifCond .ne 4, 3) := by decide +kernel
theorem dX2_stay_8 : decode cX2_stay 8 = .ok (.return_, 1) := by decide +kernel
theorem dX2_stay_9 : decode cX2_stay 9 = .ok (.aload_n 1, 1) := by decide +kernel
theorem dX2_stay_10 : decode cX2_stay 10 = .ok (.getfield 46, 3) := by decide +kernel
theorem dX2_stay_13 : decode cX2_stay 13 = .ok (.iload_n 2, 1) := by decide +kernel
theorem dX2_stay_14 : decode cX2_stay 14 = .ok (.aaload, 1) := by decide +kernel
theorem dX2_stay_15 : decode cX2_stay 15 = .ok (.iconst 5, 1) := by decide +kernel
theorem dX2_stay_16 : decode cX2_stay 16 = .ok (.putfield 59, 3) := by decide +kernel
theorem dX2_stay_19 : decode cX2_stay 19 = .ok (.iload_n 2, 1) := by decide +kernel
theorem dX2_stay_20 : decode cX2_stay 20 = .ok (.ifCond .le 19, 3) := by decide +kernel
theorem dX2_stay_23 : decode cX2_stay 23 = .ok (.aload_n 1, 1) := by decide +kernel
theorem dX2_stay_24 : decode cX2_stay 24 = .ok (.getfield 46, 3) := by decide +kernel
theorem dX2_stay_27 : decode cX2_stay 27 = .ok (.iload_n 2, 1) := by decide +kernel
theorem dX2_stay_28 : decode cX2_stay 28 = .ok (.iconst 1, 1) := by decide +kernel
theorem dX2_stay_29 : decode cX2_stay 29 = .ok (.isub, 1) := by decide +kernel
theorem dX2_stay_30 : decode cX2_stay 30 = .ok (.aaload, 1) := by decide +kernel
theorem dX2_stay_31 : decode cX2_stay 31 = .ok (.getfield 59, 3) := by decide +kernel
theorem dX2_stay_34 : decode cX2_stay 34 = .ok (.iconst 4, 1) := by decide +kernel
theorem dX2_stay_35 : decode cX2_stay 35 = .ok (.if_icmp .eq 4, 3) := by decide +kernel
theorem dX2_stay_38 : decode cX2_stay 38 = .ok (.return_, 1) := by decide +kernel
theorem dX2_stay_39 : decode cX2_stay 39 = .ok (.iload_n 2, 1) := by decide +kernel
theorem dX2_stay_40 : decode cX2_stay 40 = .ok (.istore_n 3, 1) := by decide +kernel
theorem dX2_stay_41 : decode cX2_stay 41 = .ok (.iload_n 3, 1) := by decide +kernel
theorem dX2_stay_42 : decode cX2_stay 42 = .ok (.bipush 20, 2) := by decide +kernel
theorem dX2_stay_44 : decode cX2_stay 44 = .ok (.if_icmp .ge 40, 3) := by decide +kernel
theorem dX2_stay_47 : decode cX2_stay 47 = .ok (.aload_n 1, 1) := by decide +kernel
theorem dX2_stay_48 : decode cX2_stay 48 = .ok (.iload_n 3, 1) := by decide +kernel
theorem dX2_stay_49 : decode cX2_stay 49 = .ok (.invokevirtual 40, 3) := by decide +kernel
theorem dX2_stay_52 : decode cX2_stay 52 = .ok (.ifCond .eq 32, 3) := by decide +kernel
theorem dX2_stay_55 : decode cX2_stay 55 = .ok (.aload_n 1, 1) := by decide +kernel
theorem dX2_stay_56 : decode cX2_stay 56 = .ok (.getfield 46, 3) := by decide +kernel
theorem dX2_stay_59 : decode cX2_stay 59 = .ok (.iload_n 3, 1) := by decide +kernel
theorem dX2_stay_60 : decode cX2_stay 60 = .ok (.aaload, 1) := by decide +kernel
theorem dX2_stay_61 : decode cX2_stay 61 = .ok (.getfield 59, 3) := by decide +kernel
theorem dX2_stay_64 : decode cX2_stay 64 = .ok (.iconst 5, 1) := by decide +kernel
theorem dX2_stay_65 : decode cX2_stay 65 = .ok (.if_icmp .ne 19, 3) := by decide +kernel
theorem dX2_stay_68 : decode cX2_stay 68 = .ok (.aload_n 0, 1) := by decide +kernel
theorem dX2_stay_69 : decode cX2_stay 69 = .ok (.aload_n 1, 1) := by decide +kernel
theorem dX2_stay_70 : decode cX2_stay 70 = .ok (.getfield 46, 3) := by decide +kernel
theorem dX2_stay_73 : decode cX2_stay 73 = .ok (.iload_n 3, 1) := by decide +kernel
theorem dX2_stay_74 : decode cX2_stay 74 = .ok (.aaload, 1) := by decide +kernel
theorem dX2_stay_75 : decode cX2_stay 75 = .ok (.invokevirtual 142, 3) := by decide +kernel
theorem dX2_stay_78 : decode cX2_stay 78 = .ok (.iinc 3 1, 3) := by decide +kernel
theorem dX2_stay_81 : decode cX2_stay 81 = .ok (.goto (-40), 3) := by decide +kernel
theorem dX2_stay_84 : decode cX2_stay 84 = .ok (.return_, 1) := by decide +kernel
theorem dX2_keep_0 : decode cX2_keep 0 = .ok (.aload_n 1, 1) := by decide +kernel
theorem dX2_keep_1 : decode cX2_keep 1 = .ok (.iconst 4, 1) := by decide +kernel
theorem dX2_keep_2 : decode cX2_keep 2 = .ok (.putfield 59, 3) := by decide +kernel
theorem dX2_keep_5 : decode cX2_keep 5 = .ok (.aload_n 0, 1) := by decide +kernel
theorem dX2_keep_6 : decode cX2_keep 6 = .ok (.aload_n 1, 1) := by decide +kernel
theorem dX2_keep_7 : decode cX2_keep 7 = .ok (.getfield 114, 3) := by decide +kernel
theorem dX2_keep_10 : decode cX2_keep 10 = .ok (.aload_n 1, 1) := by decide +kernel
theorem dX2_keep_11 : decode cX2_keep 11 = .ok (.getfield 146, 3) := by decide +kernel
theorem dX2_keep_14 : decode cX2_keep 14 = .ok (.invokevirtual 139, 3) := by decide +kernel
theorem dX2_keep_17 : decode cX2_keep 17 = .ok (.aload_n 1, 1) := by decide +kernel
theorem dX2_keep_18 : decode cX2_keep 18 = .ok (.getfield 114, 3) := by decide +kernel
theorem dX2_keep_21 : decode cX2_keep 21 = .ok (.iconst 0, 1) := by decide +kernel
theorem dX2_keep_22 : decode cX2_keep 22 = .ok (.bipush 7, 2) := by decide +kernel
theorem dX2_keep_24 : decode cX2_keep 24 = .ok (.invokestatic 29, 3) := by decide +kernel
theorem dX2_keep_27 : decode cX2_keep 27 = .ok (.ifCond .eq 21, 3) := by decide +kernel
theorem dX2_keep_30 : decode cX2_keep 30 = .ok (.aload_n 0, 1) := by decide +kernel
theorem dX2_keep_31 : decode cX2_keep 31 = .ok (.getfield 20, 3) := by decide +kernel
theorem dX2_keep_34 : decode cX2_keep 34 = .ok (.aload_n 1, 1) := by decide +kernel
theorem dX2_keep_35 : decode cX2_keep 35 = .ok (.getfield 114, 3) := by decide +kernel
theorem dX2_keep_38 : decode cX2_keep 38 = .ok (.aaload, 1) := by decide +kernel
theorem dX2_keep_39 : decode cX2_keep 39 = .ok (.dup, 1) := by decide +kernel
theorem dX2_keep_40 : decode cX2_keep 40 = .ok (.getfield 149, 3) := by decide +kernel
theorem dX2_keep_43 : decode cX2_keep 43 = .ok (.iconst 1, 1) := by decide +kernel
theorem dX2_keep_44 : decode cX2_keep 44 = .ok (.iadd, 1) := by decide +kernel
theorem dX2_keep_45 : decode cX2_keep 45 = .ok (.putfield 149, 3) := by decide +kernel
theorem dX2_keep_48 : decode cX2_keep 48 = .ok (.return_, 1) := by decide +kernel
theorem dX2_makeVoid_0 : decode cX2_makeVoid 0 = .ok (.aload_n 1, 1) := by decide +kernel
theorem dX2_makeVoid_1 : decode cX2_makeVoid 1 = .ok (.iload_n 2, 1) := by decide +kernel
theorem dX2_makeVoid_2 : decode cX2_makeVoid 2 = .ok (.invokevirtual 40, 3) := by decide +kernel
theorem dX2_makeVoid_5 : decode cX2_makeVoid 5 = .ok (.ifCond .ne 4, 3) := by decide +kernel
theorem dX2_makeVoid_8 : decode cX2_makeVoid 8 = .ok (.return_, 1) := by decide +kernel
theorem dX2_makeVoid_9 : decode cX2_makeVoid 9 = .ok (.aload_n 0, 1) := by decide +kernel
theorem dX2_makeVoid_10 : decode cX2_makeVoid 10 = .ok (.aload_n 1, 1) := by decide +kernel
theorem dX2_makeVoid_11 : decode cX2_makeVoid 11 = .ok (.aload_n 1, 1) := by decide +kernel
theorem dX2_makeVoid_12 : decode cX2_makeVoid 12 = .ok (.getfield 46, 3) := by decide +kernel
theorem dX2_makeVoid_15 : decode cX2_makeVoid 15 = .ok (.iload_n 2, 1) := by decide +kernel
theorem dX2_makeVoid_16 : decode cX2_makeVoid 16 = .ok (.aaload, 1) := by decide +kernel
theorem dX2_makeVoid_17 : decode cX2_makeVoid 17 = .ok (.invokevirtual 152, 3) := by decide +kernel
theorem dX2_makeVoid_20 : decode cX2_makeVoid 20 = .ok (.iload_n 2, 1) := by decide +kernel
theorem dX2_makeVoid_21 : decode cX2_makeVoid 21 = .ok (.iconst 1, 1) := by decide +kernel
theorem dX2_makeVoid_22 : decode cX2_makeVoid 22 = .ok (.iadd, 1) := by decide +kernel
theorem dX2_makeVoid_23 : decode cX2_makeVoid 23 = .ok (.istore_n 3, 1) := by decide +kernel
theorem dX2_makeVoid_24 : decode cX2_makeVoid 24 = .ok (.iload_n 3, 1) := by decide +kernel
theorem dX2_makeVoid_25 : decode cX2_makeVoid 25 = .ok (.bipush 20, 2) := by decide +kernel
theorem dX2_makeVoid_27 : decode cX2_makeVoid 27 = .ok (.if_icmp .ge 50, 3) := by decide +kernel
theorem dX2_makeVoid_30 : decode cX2_makeVoid 30 = .ok (.aload_n 1, 1) := by decide +kernel
theorem dX2_makeVoid_31 : decode cX2_makeVoid 31 = .ok (.iload_n 3, 1) := by decide +kernel
theorem dX2_makeVoid_32 : decode cX2_makeVoid 32 = .ok (.invokevirtual 40, 3) := by decide +kernel
theorem dX2_makeVoid_35 : decode cX2_makeVoid 35 = .ok (.ifCond .eq 42, 3) := by decide +kernel
theorem dX2_makeVoid_38 : decode cX2_makeVoid 38 = .ok (.aload_n 1, 1) := by decide +kernel
theorem dX2_makeVoid_39 : decode cX2_makeVoid 39 = .ok (.getfield 46, 3) := by decide +kernel
theorem dX2_makeVoid_42 : decode cX2_makeVoid 42 = .ok (.iload_n 3, 1) := by decide +kernel
theorem dX2_makeVoid_43 : decode cX2_makeVoid 43 = .ok (.aaload, 1) := by decide +kernel
theorem dX2_makeVoid_44 : decode cX2_makeVoid 44 = .ok (.invokestatic 156, 3) := by decide +kernel
theorem dX2_makeVoid_47 : decode cX2_makeVoid 47 = .ok (.ifCond .eq 30, 3) := by decide +kernel
theorem dX2_makeVoid_50 : decode cX2_makeVoid 50 = .ok (.aload_n 0, 1) := by decide +kernel
theorem dX2_makeVoid_51 : decode cX2_makeVoid 51 = .ok (.aload_n 1, 1) := by decide +kernel
theorem dX2_makeVoid_52 : decode cX2_makeVoid 52 = .ok (.getfield 46, 3) := by decide +kernel
theorem dX2_makeVoid_55 : decode cX2_makeVoid 55 = .ok (.iload_n 3, 1) := by decide +kernel
theorem dX2_makeVoid_56 : decode cX2_makeVoid 56 = .ok (.aaload, 1) := by decide +kernel
theorem dX2_makeVoid_57 : decode cX2_makeVoid 57 = .ok (.invokevirtual 160, 3) := by decide +kernel
theorem dX2_makeVoid_60 : decode cX2_makeVoid 60 = .ok (.aload_n 0, 1) := by decide +kernel
theorem dX2_makeVoid_61 : decode cX2_makeVoid 61 = .ok (.aload_n 1, 1) := by decide +kernel
theorem dX2_makeVoid_62 : decode cX2_makeVoid 62 = .ok (.aload_n 1, 1) := by decide +kernel
theorem dX2_makeVoid_63 : decode cX2_makeVoid 63 = .ok (.getfield 46, 3) := by decide +kernel
theorem dX2_makeVoid_66 : decode cX2_makeVoid 66 = .ok (.iload_n 3, 1) := by decide +kernel
theorem dX2_makeVoid_67 : decode cX2_makeVoid 67 = .ok (.aaload, 1) := by decide +kernel
theorem dX2_makeVoid_68 : decode cX2_makeVoid 68 = .ok (.invokevirtual 152, 3) := by decide +kernel
theorem dX2_makeVoid_71 : decode cX2_makeVoid 71 = .ok (.iinc 3 1, 3) := by decide +kernel
theorem dX2_makeVoid_74 : decode cX2_makeVoid 74 = .ok (.goto (-50), 3) := by decide +kernel
theorem dX2_makeVoid_77 : decode cX2_makeVoid 77 = .ok (.return_, 1) := by decide +kernel
theorem dX2_reopen_0 : decode cX2_reopen 0 = .ok (.aload_n 1, 1) := by decide +kernel
theorem dX2_reopen_1 : decode cX2_reopen 1 = .ok (.dup, 1) := by decide +kernel
theorem dX2_reopen_2 : decode cX2_reopen 2 = .ok (.getfield 163, 3) := by decide +kernel
theorem dX2_reopen_5 : decode cX2_reopen 5 = .ok (.aload_n 2, 1) := by decide +kernel
theorem dX2_reopen_6 : decode cX2_reopen 6 = .ok (.getfield 146, 3) := by decide +kernel
theorem dX2_reopen_9 : decode cX2_reopen 9 = .ok (.iadd, 1) := by decide +kernel
theorem dX2_reopen_10 : decode cX2_reopen 10 = .ok (.putfield 163, 3) := by decide +kernel
theorem dX2_reopen_13 : decode cX2_reopen 13 = .ok (.aload_n 2, 1) := by decide +kernel
theorem dX2_reopen_14 : decode cX2_reopen 14 = .ok (.invokevirtual 164, 3) := by decide +kernel
theorem dX2_reopen_17 : decode cX2_reopen 17 = .ok (.return_, 1) := by decide +kernel
theorem dX2_hangsOnAhead_0 : decode cX2_hangsOnAhead 0 = .ok (.aload_n 0, 1) := by decide +kernel
theorem dX2_hangsOnAhead_1 : decode cX2_hangsOnAhead 1 = .ok (.getfield 59, 3) := by decide +kernel
theorem dX2_hangsOnAhead_4 : decode cX2_hangsOnAhead 4 = .ok (.iconst 2, 1) := by decide +kernel
theorem dX2_hangsOnAhead_5 : decode cX2_hangsOnAhead 5 = .ok (.if_icmp .eq 19, 3) := by decide +kernel
theorem dX2_hangsOnAhead_8 : decode cX2_hangsOnAhead 8 = .ok (.aload_n 0, 1) := by decide +kernel
theorem dX2_hangsOnAhead_9 : decode cX2_hangsOnAhead 9 = .ok (.getfield 59, 3) := by decide +kernel
theorem dX2_hangsOnAhead_12 : decode cX2_hangsOnAhead 12 = .ok (.iconst 3, 1) := by decide +kernel
theorem dX2_hangsOnAhead_13 : decode cX2_hangsOnAhead 13 = .ok (.if_icmp .eq 11, 3) := by decide +kernel
theorem dX2_hangsOnAhead_16 : decode cX2_hangsOnAhead 16 = .ok (.aload_n 0, 1) := by decide +kernel
theorem dX2_hangsOnAhead_17 : decode cX2_hangsOnAhead 17 = .ok (.getfield 59, 3) := by decide +kernel
theorem dX2_hangsOnAhead_20 : decode cX2_hangsOnAhead 20 = .ok (.iconst 5, 1) := by decide +kernel
theorem dX2_hangsOnAhead_21 : decode cX2_hangsOnAhead 21 = .ok (.if_icmp .ne 7, 3) := by decide +kernel
theorem dX2_hangsOnAhead_24 : decode cX2_hangsOnAhead 24 = .ok (.iconst 1, 1) := by decide +kernel
theorem dX2_hangsOnAhead_25 : decode cX2_hangsOnAhead 25 = .ok (.goto 4, 3) := by decide +kernel
theorem dX2_hangsOnAhead_28 : decode cX2_hangsOnAhead 28 = .ok (.iconst 0, 1) := by decide +kernel
theorem dX2_hangsOnAhead_29 : decode cX2_hangsOnAhead 29 = .ok (.ireturn, 1) := by decide +kernel
theorem dX2_returnPledges_0 : decode cX2_returnPledges 0 = .ok (.aload_n 1, 1) := by decide +kernel
theorem dX2_returnPledges_1 : decode cX2_returnPledges 1 = .ok (.getfield 59, 3) := by decide +kernel
theorem dX2_returnPledges_4 : decode cX2_returnPledges 4 = .ok (.iconst 2, 1) := by decide +kernel
theorem dX2_returnPledges_5 : decode cX2_returnPledges 5 = .ok (.if_icmp .eq 11, 3) := by decide +kernel
theorem dX2_returnPledges_8 : decode cX2_returnPledges 8 = .ok (.aload_n 1, 1) := by decide +kernel
theorem dX2_returnPledges_9 : decode cX2_returnPledges 9 = .ok (.getfield 59, 3) := by decide +kernel
theorem dX2_returnPledges_12 : decode cX2_returnPledges 12 = .ok (.iconst 3, 1) := by decide +kernel
theorem dX2_returnPledges_13 : decode cX2_returnPledges 13 = .ok (.if_icmp .ne 15, 3) := by decide +kernel
theorem dX2_returnPledges_16 : decode cX2_returnPledges 16 = .ok (.aload_n 0, 1) := by decide +kernel
theorem dX2_returnPledges_17 : decode cX2_returnPledges 17 = .ok (.aload_n 1, 1) := by decide +kernel
theorem dX2_returnPledges_18 : decode cX2_returnPledges 18 = .ok (.getfield 114, 3) := by decide +kernel
theorem dX2_returnPledges_21 : decode cX2_returnPledges 21 = .ok (.aload_n 1, 1) := by decide +kernel
theorem dX2_returnPledges_22 : decode cX2_returnPledges 22 = .ok (.getfield 121, 3) := by decide +kernel
theorem dX2_returnPledges_25 : decode cX2_returnPledges 25 = .ok (.invokevirtual 139, 3) := by decide +kernel
theorem dX2_returnPledges_28 : decode cX2_returnPledges 28 = .ok (.aload_n 1, 1) := by decide +kernel
theorem dX2_returnPledges_29 : decode cX2_returnPledges 29 = .ok (.getfield 59, 3) := by decide +kernel
theorem dX2_returnPledges_32 : decode cX2_returnPledges 32 = .ok (.iconst 3, 1) := by decide +kernel
theorem dX2_returnPledges_33 : decode cX2_returnPledges 33 = .ok (.if_icmp .ne 18, 3) := by decide +kernel
theorem dX2_returnPledges_36 : decode cX2_returnPledges 36 = .ok (.aload_n 0, 1) := by decide +kernel
theorem dX2_returnPledges_37 : decode cX2_returnPledges 37 = .ok (.aload_n 1, 1) := by decide +kernel
theorem dX2_returnPledges_38 : decode cX2_returnPledges 38 = .ok (.getfield 62, 3) := by decide +kernel
theorem dX2_returnPledges_41 : decode cX2_returnPledges 41 = .ok (.getfield 111, 3) := by decide +kernel
theorem dX2_returnPledges_44 : decode cX2_returnPledges 44 = .ok (.aload_n 1, 1) := by decide +kernel
theorem dX2_returnPledges_45 : decode cX2_returnPledges 45 = .ok (.getfield 121, 3) := by decide +kernel
theorem dX2_returnPledges_48 : decode cX2_returnPledges 48 = .ok (.invokevirtual 139, 3) := by decide +kernel
theorem dX2_returnPledges_51 : decode cX2_returnPledges 51 = .ok (.return_, 1) := by decide +kernel
theorem dX2_dueTick_0 : decode cX2_dueTick 0 = .ok (.aload_n 1, 1) := by decide +kernel
theorem dX2_dueTick_1 : decode cX2_dueTick 1 = .ok (.getfield 59, 3) := by decide +kernel
theorem dX2_dueTick_4 : decode cX2_dueTick 4 = .ok (.tableswitch 62 1 3 #[28, 35, 47], 28) := by decide +kernel
theorem dX2_dueTick_32 : decode cX2_dueTick 32 = .ok (.aload_n 1, 1) := by decide +kernel
theorem dX2_dueTick_33 : decode cX2_dueTick 33 = .ok (.getfield 166, 3) := by decide +kernel
theorem dX2_dueTick_36 : decode cX2_dueTick 36 = .ok (.iconst 1, 1) := by decide +kernel
theorem dX2_dueTick_37 : decode cX2_dueTick 37 = .ok (.iadd, 1) := by decide +kernel
theorem dX2_dueTick_38 : decode cX2_dueTick 38 = .ok (.ireturn, 1) := by decide +kernel
theorem dX2_dueTick_39 : decode cX2_dueTick 39 = .ok (.aload_n 1, 1) := by decide +kernel
theorem dX2_dueTick_40 : decode cX2_dueTick 40 = .ok (.getfield 169, 3) := by decide +kernel
theorem dX2_dueTick_43 : decode cX2_dueTick 43 = .ok (.aload_n 0, 1) := by decide +kernel
theorem dX2_dueTick_44 : decode cX2_dueTick 44 = .ok (.getfield 24, 3) := by decide +kernel
theorem dX2_dueTick_47 : decode cX2_dueTick 47 = .ok (.iconst 0, 1) := by decide +kernel
theorem dX2_dueTick_48 : decode cX2_dueTick 48 = .ok (.iaload, 1) := by decide +kernel
theorem dX2_dueTick_49 : decode cX2_dueTick 49 = .ok (.iadd, 1) := by decide +kernel
theorem dX2_dueTick_50 : decode cX2_dueTick 50 = .ok (.ireturn, 1) := by decide +kernel
theorem dX2_dueTick_51 : decode cX2_dueTick 51 = .ok (.aload_n 1, 1) := by decide +kernel
theorem dX2_dueTick_52 : decode cX2_dueTick 52 = .ok (.getfield 62, 3) := by decide +kernel
theorem dX2_dueTick_55 : decode cX2_dueTick 55 = .ok (.getfield 172, 3) := by decide +kernel
theorem dX2_dueTick_58 : decode cX2_dueTick 58 = .ok (.aload_n 0, 1) := by decide +kernel
theorem dX2_dueTick_59 : decode cX2_dueTick 59 = .ok (.getfield 24, 3) := by decide +kernel
theorem dX2_dueTick_62 : decode cX2_dueTick 62 = .ok (.iconst 1, 1) := by decide +kernel
theorem dX2_dueTick_63 : decode cX2_dueTick 63 = .ok (.iaload, 1) := by decide +kernel
theorem dX2_dueTick_64 : decode cX2_dueTick 64 = .ok (.iadd, 1) := by decide +kernel
theorem dX2_dueTick_65 : decode cX2_dueTick 65 = .ok (.ireturn, 1) := by decide +kernel
theorem dX2_dueTick_66 : decode cX2_dueTick 66 = .ok (.ldc 175, 2) := by decide +kernel
theorem dX2_dueTick_68 : decode cX2_dueTick 68 = .ok (.ireturn, 1) := by decide +kernel
theorem dX2_lapse_0 : decode cX2_lapse 0 = .ok (.aload_n 1, 1) := by decide +kernel
theorem dX2_lapse_1 : decode cX2_lapse 1 = .ok (.iload_n 2, 1) := by decide +kernel
theorem dX2_lapse_2 : decode cX2_lapse 2 = .ok (.invokevirtual 40, 3) := by decide +kernel
theorem dX2_lapse_5 : decode cX2_lapse 5 = .ok (.ifCond .ne 4, 3) := by decide +kernel
theorem dX2_lapse_8 : decode cX2_lapse 8 = .ok (.return_, 1) := by decide +kernel
theorem dX2_lapse_9 : decode cX2_lapse 9 = .ok (.aload_n 1, 1) := by decide +kernel
theorem dX2_lapse_10 : decode cX2_lapse 10 = .ok (.getfield 46, 3) := by decide +kernel
theorem dX2_lapse_13 : decode cX2_lapse 13 = .ok (.iload_n 2, 1) := by decide +kernel
theorem dX2_lapse_14 : decode cX2_lapse 14 = .ok (.aaload, 1) := by decide +kernel
theorem dX2_lapse_15 : decode cX2_lapse 15 = .ok (.astore_n 3, 1) := by decide +kernel
theorem dX2_lapse_16 : decode cX2_lapse 16 = .ok (.aload_n 3, 1) := by decide +kernel
theorem dX2_lapse_17 : decode cX2_lapse 17 = .ok (.getfield 59, 3) := by decide +kernel
theorem dX2_lapse_20 : decode cX2_lapse 20 = .ok (.tableswitch 102 1 3 #[28, 58, 79], 28) := by decide +kernel
theorem dX2_lapse_48 : decode cX2_lapse 48 = .ok (.aload_n 0, 1) := by decide +kernel
theorem dX2_lapse_49 : decode cX2_lapse 49 = .ok (.dup, 1) := by decide +kernel
theorem dX2_lapse_50 : decode cX2_lapse 50 = .ok (.getfield 131, 3) := by decide +kernel
theorem dX2_lapse_53 : decode cX2_lapse 53 = .ok (.aload_n 3, 1) := by decide +kernel
theorem dX2_lapse_54 : decode cX2_lapse 54 = .ok (.getfield 121, 3) := by decide +kernel
theorem dX2_lapse_57 : decode cX2_lapse 57 = .ok (.iadd, 1) := by decide +kernel
theorem dX2_lapse_58 : decode cX2_lapse 58 = .ok (.putfield 131, 3) := by decide +kernel
theorem dX2_lapse_61 : decode cX2_lapse 61 = .ok (.aload_n 0, 1) := by decide +kernel
theorem dX2_lapse_62 : decode cX2_lapse 62 = .ok (.aload_n 3, 1) := by decide +kernel
theorem dX2_lapse_63 : decode cX2_lapse 63 = .ok (.getfield 114, 3) := by decide +kernel
theorem dX2_lapse_66 : decode cX2_lapse 66 = .ok (.invokevirtual 117, 3) := by decide +kernel
theorem dX2_lapse_69 : decode cX2_lapse 69 = .ok (.aload_n 0, 1) := by decide +kernel
theorem dX2_lapse_70 : decode cX2_lapse 70 = .ok (.aload_n 1, 1) := by decide +kernel
theorem dX2_lapse_71 : decode cX2_lapse 71 = .ok (.aload_n 3, 1) := by decide +kernel
theorem dX2_lapse_72 : decode cX2_lapse 72 = .ok (.invokevirtual 152, 3) := by decide +kernel
theorem dX2_lapse_75 : decode cX2_lapse 75 = .ok (.goto 47, 3) := by decide +kernel
theorem dX2_lapse_78 : decode cX2_lapse 78 = .ok (.aload_n 0, 1) := by decide +kernel
theorem dX2_lapse_79 : decode cX2_lapse 79 = .ok (.aload_n 3, 1) := by decide +kernel
theorem dX2_lapse_80 : decode cX2_lapse 80 = .ok (.getfield 114, 3) := by decide +kernel
theorem dX2_lapse_83 : decode cX2_lapse 83 = .ok (.aload_n 3, 1) := by decide +kernel
theorem dX2_lapse_84 : decode cX2_lapse 84 = .ok (.getfield 121, 3) := by decide +kernel
theorem dX2_lapse_87 : decode cX2_lapse 87 = .ok (.invokevirtual 139, 3) := by decide +kernel
theorem dX2_lapse_90 : decode cX2_lapse 90 = .ok (.aload_n 0, 1) := by decide +kernel
theorem dX2_lapse_91 : decode cX2_lapse 91 = .ok (.aload_n 1, 1) := by decide +kernel
theorem dX2_lapse_92 : decode cX2_lapse 92 = .ok (.iload_n 2, 1) := by decide +kernel
theorem dX2_lapse_93 : decode cX2_lapse 93 = .ok (.invokevirtual 127, 3) := by decide +kernel
theorem dX2_lapse_96 : decode cX2_lapse 96 = .ok (.goto 26, 3) := by decide +kernel
theorem dX2_lapse_99 : decode cX2_lapse 99 = .ok (.aload_n 0, 1) := by decide +kernel
theorem dX2_lapse_100 : decode cX2_lapse 100 = .ok (.aload_n 1, 1) := by decide +kernel
theorem dX2_lapse_101 : decode cX2_lapse 101 = .ok (.iload_n 2, 1) := by decide +kernel
theorem dX2_lapse_102 : decode cX2_lapse 102 = .ok (.aload_n 3, 1) := by decide +kernel
theorem dX2_lapse_103 : decode cX2_lapse 103 = .ok (.getfield 62, 3) := by decide +kernel
theorem dX2_lapse_106 : decode cX2_lapse 106 = .ok (.getfield 176, 3) := by decide +kernel
theorem dX2_lapse_109 : decode cX2_lapse 109 = .ok (.aload_n 3, 1) := by decide +kernel
theorem dX2_lapse_110 : decode cX2_lapse 110 = .ok (.getfield 62, 3) := by decide +kernel
theorem dX2_lapse_113 : decode cX2_lapse 113 = .ok (.getfield 180, 3) := by decide +kernel
theorem dX2_lapse_116 : decode cX2_lapse 116 = .ok (.invokevirtual 107, 3) := by decide +kernel
theorem dX2_lapse_119 : decode cX2_lapse 119 = .ok (.goto 3, 3) := by decide +kernel
theorem dX2_lapse_122 : decode cX2_lapse 122 = .ok (.return_, 1) := by decide +kernel
