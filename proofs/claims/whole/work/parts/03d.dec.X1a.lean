theorem dX1_init_0 : decode cX1_init 0 = .ok (.aload_n 0, 1) := by decide +kernel
theorem dX1_init_1 : decode cX1_init 1 = .ok (.invokespecial 3, 3) := by decide +kernel
theorem dX1_init_4 : decode cX1_init 4 = .ok (.aload_n 0, 1) := by decide +kernel
theorem dX1_init_5 : decode cX1_init 5 = .ok (.new 9, 3) := by decide +kernel
theorem dX1_init_8 : decode cX1_init 8 = .ok (.dup, 1) := by decide +kernel
theorem dX1_init_9 : decode cX1_init 9 = .ok (.invokespecial 11, 3) := by decide +kernel
theorem dX1_init_12 : decode cX1_init 12 = .ok (.putfield 12, 3) := by decide +kernel
theorem dX1_init_15 : decode cX1_init 15 = .ok (.aload_n 0, 1) := by decide +kernel
theorem dX1_init_16 : decode cX1_init 16 = .ok (.sipush 200, 3) := by decide +kernel
theorem dX1_init_19 : decode cX1_init 19 = .ok (.newarray .int, 2) := by decide +kernel
theorem dX1_init_21 : decode cX1_init 21 = .ok (.putfield 18, 3) := by decide +kernel
theorem dX1_init_24 : decode cX1_init 24 = .ok (.aload_n 0, 1) := by decide +kernel
theorem dX1_init_25 : decode cX1_init 25 = .ok (.sipush 200, 3) := by decide +kernel
theorem dX1_init_28 : decode cX1_init 28 = .ok (.newarray .int, 2) := by decide +kernel
theorem dX1_init_30 : decode cX1_init 30 = .ok (.putfield 22, 3) := by decide +kernel
theorem dX1_init_33 : decode cX1_init 33 = .ok (.return_, 1) := by decide +kernel
theorem dX1_compile_0 : decode cX1_compile 0 = .ok (.aload_n 0, 1) := by decide +kernel
theorem dX1_compile_1 : decode cX1_compile 1 = .ok (.iconst 0, 1) := by decide +kernel
theorem dX1_compile_2 : decode cX1_compile 2 = .ok (.putfield 25, 3) := by decide +kernel
theorem dX1_compile_5 : decode cX1_compile 5 = .ok (.aload_n 0, 1) := by decide +kernel
theorem dX1_compile_6 : decode cX1_compile 6 = .ok (.iconst 0, 1) := by decide +kernel
theorem dX1_compile_7 : decode cX1_compile 7 = .ok (.putfield 29, 3) := by decide +kernel
theorem dX1_compile_10 : decode cX1_compile 10 = .ok (.aload_n 0, 1) := by decide +kernel
theorem dX1_compile_11 : decode cX1_compile 11 = .ok (.getfield 12, 3) := by decide +kernel
theorem dX1_compile_14 : decode cX1_compile 14 = .ok (.iload_n 1, 1) := by decide +kernel
theorem dX1_compile_15 : decode cX1_compile 15 = .ok (.invokevirtual 32, 3) := by decide +kernel
theorem dX1_compile_18 : decode cX1_compile 18 = .ok (.aload_n 0, 1) := by decide +kernel
theorem dX1_compile_19 : decode cX1_compile 19 = .ok (.iconst 0, 1) := by decide +kernel
theorem dX1_compile_20 : decode cX1_compile 20 = .ok (.invokevirtual 36, 3) := by decide +kernel
theorem dX1_compile_23 : decode cX1_compile 23 = .ok (.ifCond .ne 8, 3) := by decide +kernel
theorem dX1_compile_26 : decode cX1_compile 26 = .ok (.aload_n 0, 1) := by decide +kernel
theorem dX1_compile_27 : decode cX1_compile 27 = .ok (.getfield 29, 3) := by decide +kernel
theorem dX1_compile_30 : decode cX1_compile 30 = .ok (.ireturn, 1) := by decide +kernel
theorem dX1_compile_31 : decode cX1_compile 31 = .ok (.aload_n 0, 1) := by decide +kernel
theorem dX1_compile_32 : decode cX1_compile 32 = .ok (.getfield 12, 3) := by decide +kernel
theorem dX1_compile_35 : decode cX1_compile 35 = .ok (.getfield 40, 3) := by decide +kernel
theorem dX1_compile_38 : decode cX1_compile 38 = .ok (.ifCond .eq 14, 3) := by decide +kernel
theorem dX1_compile_41 : decode cX1_compile 41 = .ok (.aload_n 0, 1) := by decide +kernel
theorem dX1_compile_42 : decode cX1_compile 42 = .ok (.iconst 1, 1) := by decide +kernel
theorem dX1_compile_43 : decode cX1_compile 43 = .ok (.invokevirtual 43, 3) := by decide +kernel
theorem dX1_compile_46 : decode cX1_compile 46 = .ok (.pop, 1) := by decide +kernel
theorem dX1_compile_47 : decode cX1_compile 47 = .ok (.aload_n 0, 1) := by decide +kernel
theorem dX1_compile_48 : decode cX1_compile 48 = .ok (.getfield 29, 3) := by decide +kernel
theorem dX1_compile_51 : decode cX1_compile 51 = .ok (.ireturn, 1) := by decide +kernel
theorem dX1_compile_52 : decode cX1_compile 52 = .ok (.aload_n 0, 1) := by decide +kernel
theorem dX1_compile_53 : decode cX1_compile 53 = .ok (.iconst 0, 1) := by decide +kernel
theorem dX1_compile_54 : decode cX1_compile 54 = .ok (.iconst 0, 1) := by decide +kernel
theorem dX1_compile_55 : decode cX1_compile 55 = .ok (.invokevirtual 46, 3) := by decide +kernel
theorem dX1_compile_58 : decode cX1_compile 58 = .ok (.pop, 1) := by decide +kernel
theorem dX1_compile_59 : decode cX1_compile 59 = .ok (.aload_n 0, 1) := by decide +kernel
theorem dX1_compile_60 : decode cX1_compile 60 = .ok (.getfield 25, 3) := by decide +kernel
theorem dX1_compile_63 : decode cX1_compile 63 = .ok (.sipush 200, 3) := by decide +kernel
theorem dX1_compile_66 : decode cX1_compile 66 = .ok (.if_icmp .le 9, 3) := by decide +kernel
theorem dX1_compile_69 : decode cX1_compile 69 = .ok (.aload_n 0, 1) := by decide +kernel
theorem dX1_compile_70 : decode cX1_compile 70 = .ok (.iconst 4, 1) := by decide +kernel
theorem dX1_compile_71 : decode cX1_compile 71 = .ok (.invokevirtual 43, 3) := by decide +kernel
theorem dX1_compile_74 : decode cX1_compile 74 = .ok (.pop, 1) := by decide +kernel
theorem dX1_compile_75 : decode cX1_compile 75 = .ok (.aload_n 0, 1) := by decide +kernel
theorem dX1_compile_76 : decode cX1_compile 76 = .ok (.getfield 29, 3) := by decide +kernel
theorem dX1_compile_79 : decode cX1_compile 79 = .ok (.ireturn, 1) := by decide +kernel
theorem dX1_refuse_0 : decode cX1_refuse 0 = .ok (.aload_n 0, 1) := by decide +kernel
theorem dX1_refuse_1 : decode cX1_refuse 1 = .ok (.iload_n 1, 1) := by decide +kernel
theorem dX1_refuse_2 : decode cX1_refuse 2 = .ok (.putfield 29, 3) := by decide +kernel
theorem dX1_refuse_5 : decode cX1_refuse 5 = .ok (.aload_n 0, 1) := by decide +kernel
theorem dX1_refuse_6 : decode cX1_refuse 6 = .ok (.aload_n 0, 1) := by decide +kernel
theorem dX1_refuse_7 : decode cX1_refuse 7 = .ok (.getfield 12, 3) := by decide +kernel
theorem dX1_refuse_10 : decode cX1_refuse 10 = .ok (.getfield 50, 3) := by decide +kernel
theorem dX1_refuse_13 : decode cX1_refuse 13 = .ok (.putfield 53, 3) := by decide +kernel
theorem dX1_refuse_16 : decode cX1_refuse 16 = .ok (.iconst 0, 1) := by decide +kernel
theorem dX1_refuse_17 : decode cX1_refuse 17 = .ok (.ireturn, 1) := by decide +kernel
theorem dX1_emit_0 : decode cX1_emit 0 = .ok (.aload_n 0, 1) := by decide +kernel
theorem dX1_emit_1 : decode cX1_emit 1 = .ok (.getfield 25, 3) := by decide +kernel
theorem dX1_emit_4 : decode cX1_emit 4 = .ok (.sipush 200, 3) := by decide +kernel
theorem dX1_emit_7 : decode cX1_emit 7 = .ok (.if_icmp .ge 23, 3) := by decide +kernel
theorem dX1_emit_10 : decode cX1_emit 10 = .ok (.aload_n 0, 1) := by decide +kernel
theorem dX1_emit_11 : decode cX1_emit 11 = .ok (.getfield 18, 3) := by decide +kernel
theorem dX1_emit_14 : decode cX1_emit 14 = .ok (.aload_n 0, 1) := by decide +kernel
theorem dX1_emit_15 : decode cX1_emit 15 = .ok (.getfield 25, 3) := by decide +kernel
theorem dX1_emit_18 : decode cX1_emit 18 = .ok (.iload_n 1, 1) := by decide +kernel
theorem dX1_emit_19 : decode cX1_emit 19 = .ok (.iastore, 1) := by decide +kernel
theorem dX1_emit_20 : decode cX1_emit 20 = .ok (.aload_n 0, 1) := by decide +kernel
theorem dX1_emit_21 : decode cX1_emit 21 = .ok (.getfield 22, 3) := by decide +kernel
theorem dX1_emit_24 : decode cX1_emit 24 = .ok (.aload_n 0, 1) := by decide +kernel
theorem dX1_emit_25 : decode cX1_emit 25 = .ok (.getfield 25, 3) := by decide +kernel
theorem dX1_emit_28 : decode cX1_emit 28 = .ok (.iload_n 2, 1) := by decide +kernel
theorem dX1_emit_29 : decode cX1_emit 29 = .ok (.iastore, 1) := by decide +kernel
theorem dX1_emit_30 : decode cX1_emit 30 = .ok (.aload_n 0, 1) := by decide +kernel
theorem dX1_emit_31 : decode cX1_emit 31 = .ok (.dup, 1) := by decide +kernel
theorem dX1_emit_32 : decode cX1_emit 32 = .ok (.getfield 25, 3) := by decide +kernel
theorem dX1_emit_35 : decode cX1_emit 35 = .ok (.iconst 1, 1) := by decide +kernel
theorem dX1_emit_36 : decode cX1_emit 36 = .ok (.iadd, 1) := by decide +kernel
theorem dX1_emit_37 : decode cX1_emit 37 = .ok (.putfield 25, 3) := by decide +kernel
theorem dX1_emit_40 : decode cX1_emit 40 = .ok (.iconst 1, 1) := by decide +kernel
theorem dX1_emit_41 : decode cX1_emit 41 = .ok (.ireturn, 1) := by decide +kernel
theorem dX1_aim_0 : decode cX1_aim 0 = .ok (.iload_n 1, 1) := by decide +kernel
theorem dX1_aim_1 : decode cX1_aim 1 = .ok (.ifCond .lt 20, 3) := by decide +kernel
theorem dX1_aim_4 : decode cX1_aim 4 = .ok (.iload_n 1, 1) := by decide +kernel
theorem dX1_aim_5 : decode cX1_aim 5 = .ok (.sipush 200, 3) := by decide +kernel
theorem dX1_aim_8 : decode cX1_aim 8 = .ok (.if_icmp .ge 13, 3) := by decide +kernel
theorem dX1_aim_11 : decode cX1_aim 11 = .ok (.aload_n 0, 1) := by decide +kernel
theorem dX1_aim_12 : decode cX1_aim 12 = .ok (.getfield 22, 3) := by decide +kernel
theorem dX1_aim_15 : decode cX1_aim 15 = .ok (.iload_n 1, 1) := by decide +kernel
theorem dX1_aim_16 : decode cX1_aim 16 = .ok (.aload_n 0, 1) := by decide +kernel
theorem dX1_aim_17 : decode cX1_aim 17 = .ok (.getfield 25, 3) := by decide +kernel
theorem dX1_aim_20 : decode cX1_aim 20 = .ok (.iastore, 1) := by decide +kernel
theorem dX1_aim_21 : decode cX1_aim 21 = .ok (.return_, 1) := by decide +kernel
theorem dX1_expect_0 : decode cX1_expect 0 = .ok (.aload_n 0, 1) := by decide +kernel
theorem dX1_expect_1 : decode cX1_expect 1 = .ok (.getfield 12, 3) := by decide +kernel
theorem dX1_expect_4 : decode cX1_expect 4 = .ok (.iload_n 1, 1) := by decide +kernel
theorem dX1_expect_5 : decode cX1_expect 5 = .ok (.invokevirtual 56, 3) := by decide +kernel
theorem dX1_expect_8 : decode cX1_expect 8 = .ok (.ifCond .ne 11, 3) := by decide +kernel
theorem dX1_expect_11 : decode cX1_expect 11 = .ok (.aload_n 0, 1) := by decide +kernel
theorem dX1_expect_12 : decode cX1_expect 12 = .ok (.iconst 1, 1) := by decide +kernel
theorem dX1_expect_13 : decode cX1_expect 13 = .ok (.invokevirtual 43, 3) := by decide +kernel
theorem dX1_expect_16 : decode cX1_expect 16 = .ok (.ifCond .eq 7, 3) := by decide +kernel
theorem dX1_expect_19 : decode cX1_expect 19 = .ok (.iconst 1, 1) := by decide +kernel
theorem dX1_expect_20 : decode cX1_expect 20 = .ok (.goto 4, 3) := by decide +kernel
theorem dX1_expect_23 : decode cX1_expect 23 = .ok (.iconst 0, 1) := by decide +kernel
theorem dX1_expect_24 : decode cX1_expect 24 = .ok (.ireturn, 1) := by decide +kernel
theorem dX1_opens_0 : decode cX1_opens 0 = .ok (.aload_n 0, 1) := by decide +kernel
theorem dX1_opens_1 : decode cX1_opens 1 = .ok (.getfield 12, 3) := by decide +kernel
theorem dX1_opens_4 : decode cX1_opens 4 = .ok (.iload_n 1, 1) := by decide +kernel
theorem dX1_opens_5 : decode cX1_opens 5 = .ok (.invokevirtual 59, 3) := by decide +kernel
theorem dX1_opens_8 : decode cX1_opens 8 = .ok (.ifCond .ne 9, 3) := by decide +kernel
theorem dX1_opens_11 : decode cX1_opens 11 = .ok (.aload_n 0, 1) := by decide +kernel
theorem dX1_opens_12 : decode cX1_opens 12 = .ok (.iconst 1, 1) := by decide +kernel
theorem dX1_opens_13 : decode cX1_opens 13 = .ok (.invokevirtual 43, 3) := by decide +kernel
theorem dX1_opens_16 : decode cX1_opens 16 = .ok (.ireturn, 1) := by decide +kernel
theorem dX1_opens_17 : decode cX1_opens 17 = .ok (.iload_n 2, 1) := by decide +kernel
theorem dX1_opens_18 : decode cX1_opens 18 = .ok (.bipush 6, 2) := by decide +kernel
theorem dX1_opens_20 : decode cX1_opens 20 = .ok (.if_icmp .lt 9, 3) := by decide +kernel
theorem dX1_opens_23 : decode cX1_opens 23 = .ok (.aload_n 0, 1) := by decide +kernel
theorem dX1_opens_24 : decode cX1_opens 24 = .ok (.iconst 3, 1) := by decide +kernel
theorem dX1_opens_25 : decode cX1_opens 25 = .ok (.invokevirtual 43, 3) := by decide +kernel
theorem dX1_opens_28 : decode cX1_opens 28 = .ok (.ireturn, 1) := by decide +kernel
theorem dX1_opens_29 : decode cX1_opens 29 = .ok (.aload_n 0, 1) := by decide +kernel
theorem dX1_opens_30 : decode cX1_opens 30 = .ok (.getfield 12, 3) := by decide +kernel
theorem dX1_opens_33 : decode cX1_opens 33 = .ok (.invokevirtual 62, 3) := by decide +kernel
theorem dX1_opens_36 : decode cX1_opens 36 = .ok (.iconst 1, 1) := by decide +kernel
theorem dX1_opens_37 : decode cX1_opens 37 = .ok (.ireturn, 1) := by decide +kernel
theorem dX1_statements_0 : decode cX1_statements 0 = .ok (.iconst 0, 1) := by decide +kernel
theorem dX1_statements_1 : decode cX1_statements 1 = .ok (.istore_n 2, 1) := by decide +kernel
theorem dX1_statements_2 : decode cX1_statements 2 = .ok (.iload_n 2, 1) := by decide +kernel
theorem dX1_statements_3 : decode cX1_statements 3 = .ok (.sipush 400, 3) := by decide +kernel
theorem dX1_statements_6 : decode cX1_statements 6 = .ok (.if_icmp .ge 30, 3) := by decide +kernel
theorem dX1_statements_9 : decode cX1_statements 9 = .ok (.aload_n 0, 1) := by decide +kernel
theorem dX1_statements_10 : decode cX1_statements 10 = .ok (.getfield 12, 3) := by decide +kernel
theorem dX1_statements_13 : decode cX1_statements 13 = .ok (.getfield 40, 3) := by decide +kernel
theorem dX1_statements_16 : decode cX1_statements 16 = .ok (.iconst 2, 1) := by decide +kernel
theorem dX1_statements_17 : decode cX1_statements 17 = .ok (.if_icmp .ne 19, 3) := by decide +kernel
theorem dX1_statements_20 : decode cX1_statements 20 = .ok (.aload_n 0, 1) := by decide +kernel
theorem dX1_statements_21 : decode cX1_statements 21 = .ok (.iload_n 1, 1) := by decide +kernel
theorem dX1_statements_22 : decode cX1_statements 22 = .ok (.invokevirtual 65, 3) := by decide +kernel
theorem dX1_statements_25 : decode cX1_statements 25 = .ok (.ifCond .ne 5, 3) := by decide +kernel
theorem dX1_statements_28 : decode cX1_statements 28 = .ok (.iconst 0, 1) := by decide +kernel
theorem dX1_statements_29 : decode cX1_statements 29 = .ok (.ireturn, 1) := by decide +kernel
theorem dX1_statements_30 : decode cX1_statements 30 = .ok (.iinc 2 1, 3) := by decide +kernel
theorem dX1_statements_33 : decode cX1_statements 33 = .ok (.goto (-31), 3) := by decide +kernel
theorem dX1_statements_36 : decode cX1_statements 36 = .ok (.iconst 1, 1) := by decide +kernel
theorem dX1_statements_37 : decode cX1_statements 37 = .ok (.ireturn, 1) := by decide +kernel
theorem dX1_statement_0 : decode cX1_statement 0 = .ok (.aload_n 0, 1) := by decide +kernel
theorem dX1_statement_1 : decode cX1_statement 1 = .ok (.getfield 12, 3) := by decide +kernel
theorem dX1_statement_4 : decode cX1_statement 4 = .ok (.invokevirtual 68, 3) := by decide +kernel
theorem dX1_statement_7 : decode cX1_statement 7 = .ok (.istore_n 2, 1) := by decide +kernel
theorem dX1_statement_8 : decode cX1_statement 8 = .ok (.iload_n 2, 1) := by decide +kernel
theorem dX1_statement_9 : decode cX1_statement 9 = .ok (.iconst (-1), 1) := by decide +kernel
theorem dX1_statement_10 : decode cX1_statement 10 = .ok (.if_icmp .eq 52, 3) := by decide +kernel
theorem dX1_statement_13 : decode cX1_statement 13 = .ok (.aload_n 0, 1) := by decide +kernel
theorem dX1_statement_14 : decode cX1_statement 14 = .ok (.getfield 12, 3) := by decide +kernel
theorem dX1_statement_17 : decode cX1_statement 17 = .ok (.invokevirtual 62, 3) := by decide +kernel
theorem dX1_statement_20 : decode cX1_statement 20 = .ok (.aload_n 0, 1) := by decide +kernel
theorem dX1_statement_21 : decode cX1_statement 21 = .ok (.bipush 61, 2) := by decide +kernel
theorem dX1_statement_23 : decode cX1_statement 23 = .ok (.invokevirtual 72, 3) := by decide +kernel
theorem dX1_statement_26 : decode cX1_statement 26 = .ok (.ifCond .eq 34, 3) := by decide +kernel
theorem dX1_statement_29 : decode cX1_statement 29 = .ok (.aload_n 0, 1) := by decide +kernel
theorem dX1_statement_30 : decode cX1_statement 30 = .ok (.iconst 0, 1) := by decide +kernel
theorem dX1_statement_31 : decode cX1_statement 31 = .ok (.iload_n 1, 1) := by decide +kernel
theorem dX1_statement_32 : decode cX1_statement 32 = .ok (.invokevirtual 75, 3) := by decide +kernel
theorem dX1_statement_35 : decode cX1_statement 35 = .ok (.ifCond .eq 25, 3) := by decide +kernel
theorem dX1_statement_38 : decode cX1_statement 38 = .ok (.aload_n 0, 1) := by decide +kernel
theorem dX1_statement_39 : decode cX1_statement 39 = .ok (.bipush 59, 2) := by decide +kernel
theorem dX1_statement_41 : decode cX1_statement 41 = .ok (.invokevirtual 72, 3) := by decide +kernel
theorem dX1_statement_44 : decode cX1_statement 44 = .ok (.ifCond .eq 16, 3) := by decide +kernel
theorem dX1_statement_47 : decode cX1_statement 47 = .ok (.aload_n 0, 1) := by decide +kernel
theorem dX1_statement_48 : decode cX1_statement 48 = .ok (.iconst 3, 1) := by decide +kernel
theorem dX1_statement_49 : decode cX1_statement 49 = .ok (.iload_n 2, 1) := by decide +kernel
theorem dX1_statement_50 : decode cX1_statement 50 = .ok (.invokevirtual 46, 3) := by decide +kernel
theorem dX1_statement_53 : decode cX1_statement 53 = .ok (.ifCond .eq 7, 3) := by decide +kernel
theorem dX1_statement_56 : decode cX1_statement 56 = .ok (.iconst 1, 1) := by decide +kernel
theorem dX1_statement_57 : decode cX1_statement 57 = .ok (.goto 4, 3) := by decide +kernel
theorem dX1_statement_60 : decode cX1_statement 60 = .ok (.iconst 0, 1) := by decide +kernel
theorem dX1_statement_61 : decode cX1_statement 61 = .ok (.ireturn, 1) := by decide +kernel
theorem dX1_statement_62 : decode cX1_statement 62 = .ok (.aload_n 0, 1) := by decide +kernel
theorem dX1_statement_63 : decode cX1_statement 63 = .ok (.getfield 12, 3) := by decide +kernel
theorem dX1_statement_66 : decode cX1_statement 66 = .ok (.ldc 78, 2) := by decide +kernel
theorem dX1_statement_68 : decode cX1_statement 68 = .ok (.invokevirtual 80, 3) := by decide +kernel
theorem dX1_statement_71 : decode cX1_statement 71 = .ok (.ifCond .eq 57, 3) := by decide +kernel
theorem dX1_statement_74 : decode cX1_statement 74 = .ok (.aload_n 0, 1) := by decide +kernel
theorem dX1_statement_75 : decode cX1_statement 75 = .ok (.bipush 91, 2) := by decide +kernel
theorem dX1_statement_77 : decode cX1_statement 77 = .ok (.bipush 93, 2) := by decide +kernel
theorem dX1_statement_79 : decode cX1_statement 79 = .ok (.iload_n 1, 1) := by decide +kernel
theorem dX1_statement_80 : decode cX1_statement 80 = .ok (.invokevirtual 84, 3) := by decide +kernel
theorem dX1_statement_83 : decode cX1_statement 83 = .ok (.ifCond .eq 43, 3) := by decide +kernel
theorem dX1_statement_86 : decode cX1_statement 86 = .ok (.aload_n 0, 1) := by decide +kernel
theorem dX1_statement_87 : decode cX1_statement 87 = .ok (.bipush 61, 2) := by decide +kernel
theorem dX1_statement_89 : decode cX1_statement 89 = .ok (.invokevirtual 72, 3) := by decide +kernel
theorem dX1_statement_92 : decode cX1_statement 92 = .ok (.ifCond .eq 34, 3) := by decide +kernel
theorem dX1_statement_95 : decode cX1_statement 95 = .ok (.aload_n 0, 1) := by decide +kernel
theorem dX1_statement_96 : decode cX1_statement 96 = .ok (.iconst 0, 1) := by decide +kernel
theorem dX1_statement_97 : decode cX1_statement 97 = .ok (.iload_n 1, 1) := by decide +kernel
theorem dX1_statement_98 : decode cX1_statement 98 = .ok (.invokevirtual 75, 3) := by decide +kernel
theorem dX1_statement_101 : decode cX1_statement 101 = .ok (.ifCond .eq 25, 3) := by decide +kernel
theorem dX1_statement_104 : decode cX1_statement 104 = .ok (.aload_n 0, 1) := by decide +kernel
theorem dX1_statement_105 : decode cX1_statement 105 = .ok (.bipush 59, 2) := by decide +kernel
theorem dX1_statement_107 : decode cX1_statement 107 = .ok (.invokevirtual 72, 3) := by decide +kernel
theorem dX1_statement_110 : decode cX1_statement 110 = .ok (.ifCond .eq 16, 3) := by decide +kernel
theorem dX1_statement_113 : decode cX1_statement 113 = .ok (.aload_n 0, 1) := by decide +kernel
theorem dX1_statement_114 : decode cX1_statement 114 = .ok (.iconst 5, 1) := by decide +kernel
theorem dX1_statement_115 : decode cX1_statement 115 = .ok (.iconst 0, 1) := by decide +kernel
theorem dX1_statement_116 : decode cX1_statement 116 = .ok (.invokevirtual 46, 3) := by decide +kernel
theorem dX1_statement_119 : decode cX1_statement 119 = .ok (.ifCond .eq 7, 3) := by decide +kernel
theorem dX1_statement_122 : decode cX1_statement 122 = .ok (.iconst 1, 1) := by decide +kernel
theorem dX1_statement_123 : decode cX1_statement 123 = .ok (.goto 4, 3) := by decide +kernel
theorem dX1_statement_126 : decode cX1_statement 126 = .ok (.iconst 0, 1) := by decide +kernel
theorem dX1_statement_127 : decode cX1_statement 127 = .ok (.ireturn, 1) := by decide +kernel
theorem dX1_statement_128 : decode cX1_statement 128 = .ok (.aload_n 0, 1) := by decide +kernel
theorem dX1_statement_129 : decode cX1_statement 129 = .ok (.getfield 12, 3) := by decide +kernel
theorem dX1_statement_132 : decode cX1_statement 132 = .ok (.ldc 88, 2) := by decide +kernel
theorem dX1_statement_134 : decode cX1_statement 134 = .ok (.invokevirtual 80, 3) := by decide +kernel
theorem dX1_statement_137 : decode cX1_statement 137 = .ok (.ifCond .eq 37, 3) := by decide +kernel
theorem dX1_statement_140 : decode cX1_statement 140 = .ok (.aload_n 0, 1) := by decide +kernel
theorem dX1_statement_141 : decode cX1_statement 141 = .ok (.iconst 0, 1) := by decide +kernel
theorem dX1_statement_142 : decode cX1_statement 142 = .ok (.iload_n 1, 1) := by decide +kernel
theorem dX1_statement_143 : decode cX1_statement 143 = .ok (.invokevirtual 75, 3) := by decide +kernel
theorem dX1_statement_146 : decode cX1_statement 146 = .ok (.ifCond .eq 26, 3) := by decide +kernel
theorem dX1_statement_149 : decode cX1_statement 149 = .ok (.aload_n 0, 1) := by decide +kernel
theorem dX1_statement_150 : decode cX1_statement 150 = .ok (.bipush 59, 2) := by decide +kernel
theorem dX1_statement_152 : decode cX1_statement 152 = .ok (.invokevirtual 72, 3) := by decide +kernel
theorem dX1_statement_155 : decode cX1_statement 155 = .ok (.ifCond .eq 17, 3) := by decide +kernel
theorem dX1_statement_158 : decode cX1_statement 158 = .ok (.aload_n 0, 1) := by decide +kernel
theorem dX1_statement_159 : decode cX1_statement 159 = .ok (.bipush 16, 2) := by decide +kernel
theorem dX1_statement_161 : decode cX1_statement 161 = .ok (.iconst 0, 1) := by decide +kernel
theorem dX1_statement_162 : decode cX1_statement 162 = .ok (.invokevirtual 46, 3) := by decide +kernel
theorem dX1_statement_165 : decode cX1_statement 165 = .ok (.ifCond .eq 7, 3) := by decide +kernel
theorem dX1_statement_168 : decode cX1_statement 168 = .ok (.iconst 1, 1) := by decide +kernel
theorem dX1_statement_169 : decode cX1_statement 169 = .ok (.goto 4, 3) := by decide +kernel
theorem dX1_statement_172 : decode cX1_statement 172 = .ok (.iconst 0, 1) := by decide +kernel
theorem dX1_statement_173 : decode cX1_statement 173 = .ok (.ireturn, 1) := by decide +kernel
theorem dX1_statement_174 : decode cX1_statement 174 = .ok (.aload_n 0, 1) := by decide +kernel
theorem dX1_statement_175 : decode cX1_statement 175 = .ok (.getfield 12, 3) := by decide +kernel
theorem dX1_statement_178 : decode cX1_statement 178 = .ok (.ldc 90, 2) := by decide +kernel
theorem dX1_statement_180 : decode cX1_statement 180 = .ok (.invokevirtual 80, 3) := by decide +kernel
theorem dX1_statement_183 : decode cX1_statement 183 = .ok (.ifCond .eq 9, 3) := by decide +kernel
theorem dX1_statement_186 : decode cX1_statement 186 = .ok (.aload_n 0, 1) := by decide +kernel
theorem dX1_statement_187 : decode cX1_statement 187 = .ok (.iload_n 1, 1) := by decide +kernel
theorem dX1_statement_188 : decode cX1_statement 188 = .ok (.invokevirtual 92, 3) := by decide +kernel
theorem dX1_statement_191 : decode cX1_statement 191 = .ok (.ireturn, 1) := by decide +kernel
theorem dX1_statement_192 : decode cX1_statement 192 = .ok (.aload_n 0, 1) := by decide +kernel
theorem dX1_statement_193 : decode cX1_statement 193 = .ok (.getfield 12, 3) := by decide +kernel
theorem dX1_statement_196 : decode cX1_statement 196 = .ok (.ldc 95, 2) := by decide +kernel
theorem dX1_statement_198 : decode cX1_statement 198 = .ok (.invokevirtual 80, 3) := by decide +kernel
theorem dX1_statement_201 : decode cX1_statement 201 = .ok (.ifCond .eq 9, 3) := by decide +kernel
theorem dX1_statement_204 : decode cX1_statement 204 = .ok (.aload_n 0, 1) := by decide +kernel
theorem dX1_statement_205 : decode cX1_statement 205 = .ok (.iload_n 1, 1) := by decide +kernel
theorem dX1_statement_206 : decode cX1_statement 206 = .ok (.invokevirtual 97, 3) := by decide +kernel
theorem dX1_statement_209 : decode cX1_statement 209 = .ok (.ireturn, 1) := by decide +kernel
theorem dX1_statement_210 : decode cX1_statement 210 = .ok (.aload_n 0, 1) := by decide +kernel
theorem dX1_statement_211 : decode cX1_statement 211 = .ok (.iconst 1, 1) := by decide +kernel
theorem dX1_statement_212 : decode cX1_statement 212 = .ok (.invokevirtual 43, 3) := by decide +kernel
theorem dX1_statement_215 : decode cX1_statement 215 = .ok (.ireturn, 1) := by decide +kernel
theorem dX1_loop_0 : decode cX1_loop 0 = .ok (.aload_n 0, 1) := by decide +kernel
theorem dX1_loop_1 : decode cX1_loop 1 = .ok (.getfield 25, 3) := by decide +kernel
theorem dX1_loop_4 : decode cX1_loop 4 = .ok (.istore_n 2, 1) := by decide +kernel
theorem dX1_loop_5 : decode cX1_loop 5 = .ok (.aload_n 0, 1) := by decide +kernel
theorem dX1_loop_6 : decode cX1_loop 6 = .ok (.iconst 0, 1) := by decide +kernel
theorem dX1_loop_7 : decode cX1_loop 7 = .ok (.iload_n 1, 1) := by decide +kernel
theorem dX1_loop_8 : decode cX1_loop 8 = .ok (.invokevirtual 75, 3) := by decide +kernel
theorem dX1_loop_11 : decode cX1_loop 11 = .ok (.ifCond .ne 5, 3) := by decide +kernel
theorem dX1_loop_14 : decode cX1_loop 14 = .ok (.iconst 0, 1) := by decide +kernel
theorem dX1_loop_15 : decode cX1_loop 15 = .ok (.ireturn, 1) := by decide +kernel
theorem dX1_loop_16 : decode cX1_loop 16 = .ok (.aload_n 0, 1) := by decide +kernel
theorem dX1_loop_17 : decode cX1_loop 17 = .ok (.getfield 25, 3) := by decide +kernel
theorem dX1_loop_20 : decode cX1_loop 20 = .ok (.istore_n 3, 1) := by decide +kernel
theorem dX1_loop_21 : decode cX1_loop 21 = .ok (.aload_n 0, 1) := by decide +kernel
theorem dX1_loop_22 : decode cX1_loop 22 = .ok (.bipush 15, 2) := by decide +kernel
theorem dX1_loop_24 : decode cX1_loop 24 = .ok (.iconst 0, 1) := by decide +kernel
theorem dX1_loop_25 : decode cX1_loop 25 = .ok (.invokevirtual 46, 3) := by decide +kernel
theorem dX1_loop_28 : decode cX1_loop 28 = .ok (.pop, 1) := by decide +kernel
theorem dX1_loop_29 : decode cX1_loop 29 = .ok (.aload_n 0, 1) := by decide +kernel
theorem dX1_loop_30 : decode cX1_loop 30 = .ok (.iload_n 1, 1) := by decide +kernel
theorem dX1_loop_31 : decode cX1_loop 31 = .ok (.invokevirtual 100, 3) := by decide +kernel
theorem dX1_loop_34 : decode cX1_loop 34 = .ok (.ifCond .ne 5, 3) := by decide +kernel
theorem dX1_loop_37 : decode cX1_loop 37 = .ok (.iconst 0, 1) := by decide +kernel
theorem dX1_loop_38 : decode cX1_loop 38 = .ok (.ireturn, 1) := by decide +kernel
theorem dX1_loop_39 : decode cX1_loop 39 = .ok (.aload_n 0, 1) := by decide +kernel
theorem dX1_loop_40 : decode cX1_loop 40 = .ok (.bipush 14, 2) := by decide +kernel
theorem dX1_loop_42 : decode cX1_loop 42 = .ok (.iload_n 2, 1) := by decide +kernel
theorem dX1_loop_43 : decode cX1_loop 43 = .ok (.invokevirtual 46, 3) := by decide +kernel
theorem dX1_loop_46 : decode cX1_loop 46 = .ok (.pop, 1) := by decide +kernel
theorem dX1_loop_47 : decode cX1_loop 47 = .ok (.aload_n 0, 1) := by decide +kernel
theorem dX1_loop_48 : decode cX1_loop 48 = .ok (.iload_n 3, 1) := by decide +kernel
theorem dX1_loop_49 : decode cX1_loop 49 = .ok (.invokevirtual 103, 3) := by decide +kernel
theorem dX1_loop_52 : decode cX1_loop 52 = .ok (.iconst 1, 1) := by decide +kernel
theorem dX1_loop_53 : decode cX1_loop 53 = .ok (.ireturn, 1) := by decide +kernel
theorem dX1_branch_0 : decode cX1_branch 0 = .ok (.aload_n 0, 1) := by decide +kernel
theorem dX1_branch_1 : decode cX1_branch 1 = .ok (.iconst 0, 1) := by decide +kernel
theorem dX1_branch_2 : decode cX1_branch 2 = .ok (.iload_n 1, 1) := by decide +kernel
theorem dX1_branch_3 : decode cX1_branch 3 = .ok (.invokevirtual 75, 3) := by decide +kernel
theorem dX1_branch_6 : decode cX1_branch 6 = .ok (.ifCond .ne 5, 3) := by decide +kernel
theorem dX1_branch_9 : decode cX1_branch 9 = .ok (.iconst 0, 1) := by decide +kernel
theorem dX1_branch_10 : decode cX1_branch 10 = .ok (.ireturn, 1) := by decide +kernel
theorem dX1_branch_11 : decode cX1_branch 11 = .ok (.aload_n 0, 1) := by decide +kernel
theorem dX1_branch_12 : decode cX1_branch 12 = .ok (.getfield 25, 3) := by decide +kernel
theorem dX1_branch_15 : decode cX1_branch 15 = .ok (.istore_n 2, 1) := by decide +kernel
theorem dX1_branch_16 : decode cX1_branch 16 = .ok (.aload_n 0, 1) := by decide +kernel
theorem dX1_branch_17 : decode cX1_branch 17 = .ok (.bipush 15, 2) := by decide +kernel
theorem dX1_branch_19 : decode cX1_branch 19 = .ok (.iconst 0, 1) := by decide +kernel
theorem dX1_branch_20 : decode cX1_branch 20 = .ok (.invokevirtual 46, 3) := by decide +kernel
theorem dX1_branch_23 : decode cX1_branch 23 = .ok (.pop, 1) := by decide +kernel
theorem dX1_branch_24 : decode cX1_branch 24 = .ok (.aload_n 0, 1) := by decide +kernel
theorem dX1_branch_25 : decode cX1_branch 25 = .ok (.iload_n 1, 1) := by decide +kernel
theorem dX1_branch_26 : decode cX1_branch 26 = .ok (.invokevirtual 100, 3) := by decide +kernel
theorem dX1_branch_29 : decode cX1_branch 29 = .ok (.ifCond .ne 5, 3) := by decide +kernel
theorem dX1_branch_32 : decode cX1_branch 32 = .ok (.iconst 0, 1) := by decide +kernel
theorem dX1_branch_33 : decode cX1_branch 33 = .ok (.ireturn, 1) := by decide +kernel
theorem dX1_branch_34 : decode cX1_branch 34 = .ok (.aload_n 0, 1) := by decide +kernel
theorem dX1_branch_35 : decode cX1_branch 35 = .ok (.getfield 12, 3) := by decide +kernel
theorem dX1_branch_38 : decode cX1_branch 38 = .ok (.ldc 106, 2) := by decide +kernel
theorem dX1_branch_40 : decode cX1_branch 40 = .ok (.invokevirtual 80, 3) := by decide +kernel
theorem dX1_branch_43 : decode cX1_branch 43 = .ok (.ifCond .ne 10, 3) := by decide +kernel
theorem dX1_branch_46 : decode cX1_branch 46 = .ok (.aload_n 0, 1) := by decide +kernel
theorem dX1_branch_47 : decode cX1_branch 47 = .ok (.iload_n 2, 1) := by decide +kernel
theorem dX1_branch_48 : decode cX1_branch 48 = .ok (.invokevirtual 103, 3) := by decide +kernel
theorem dX1_branch_51 : decode cX1_branch 51 = .ok (.iconst 1, 1) := by decide +kernel
theorem dX1_branch_52 : decode cX1_branch 52 = .ok (.ireturn, 1) := by decide +kernel
theorem dX1_branch_53 : decode cX1_branch 53 = .ok (.aload_n 0, 1) := by decide +kernel
theorem dX1_branch_54 : decode cX1_branch 54 = .ok (.getfield 25, 3) := by decide +kernel
theorem dX1_branch_57 : decode cX1_branch 57 = .ok (.istore_n 3, 1) := by decide +kernel
theorem dX1_branch_58 : decode cX1_branch 58 = .ok (.aload_n 0, 1) := by decide +kernel
theorem dX1_branch_59 : decode cX1_branch 59 = .ok (.bipush 14, 2) := by decide +kernel
theorem dX1_branch_61 : decode cX1_branch 61 = .ok (.iconst 0, 1) := by decide +kernel
theorem dX1_branch_62 : decode cX1_branch 62 = .ok (.invokevirtual 46, 3) := by decide +kernel
theorem dX1_branch_65 : decode cX1_branch 65 = .ok (.pop, 1) := by decide +kernel
theorem dX1_branch_66 : decode cX1_branch 66 = .ok (.aload_n 0, 1) := by decide +kernel
theorem dX1_branch_67 : decode cX1_branch 67 = .ok (.iload_n 2, 1) := by decide +kernel
theorem dX1_branch_68 : decode cX1_branch 68 = .ok (.invokevirtual 103, 3) := by decide +kernel
theorem dX1_branch_71 : decode cX1_branch 71 = .ok (.aload_n 0, 1) := by decide +kernel
theorem dX1_branch_72 : decode cX1_branch 72 = .ok (.iload_n 1, 1) := by decide +kernel
theorem dX1_branch_73 : decode cX1_branch 73 = .ok (.invokevirtual 100, 3) := by decide +kernel
theorem dX1_branch_76 : decode cX1_branch 76 = .ok (.ifCond .ne 5, 3) := by decide +kernel
theorem dX1_branch_79 : decode cX1_branch 79 = .ok (.iconst 0, 1) := by decide +kernel
theorem dX1_branch_80 : decode cX1_branch 80 = .ok (.ireturn, 1) := by decide +kernel
theorem dX1_branch_81 : decode cX1_branch 81 = .ok (.aload_n 0, 1) := by decide +kernel
theorem dX1_branch_82 : decode cX1_branch 82 = .ok (.iload_n 3, 1) := by decide +kernel
theorem dX1_branch_83 : decode cX1_branch 83 = .ok (.invokevirtual 103, 3) := by decide +kernel
theorem dX1_branch_86 : decode cX1_branch 86 = .ok (.iconst 1, 1) := by decide +kernel
theorem dX1_branch_87 : decode cX1_branch 87 = .ok (.ireturn, 1) := by decide +kernel
theorem dX1_block_0 : decode cX1_block 0 = .ok (.aload_n 0, 1) := by decide +kernel
theorem dX1_block_1 : decode cX1_block 1 = .ok (.bipush 123, 2) := by decide +kernel
theorem dX1_block_3 : decode cX1_block 3 = .ok (.iload_n 1, 1) := by decide +kernel
theorem dX1_block_4 : decode cX1_block 4 = .ok (.invokevirtual 108, 3) := by decide +kernel
theorem dX1_block_7 : decode cX1_block 7 = .ok (.ifCond .eq 26, 3) := by decide +kernel
theorem dX1_block_10 : decode cX1_block 10 = .ok (.aload_n 0, 1) := by decide +kernel
theorem dX1_block_11 : decode cX1_block 11 = .ok (.iload_n 1, 1) := by decide +kernel
theorem dX1_block_12 : decode cX1_block 12 = .ok (.iconst 1, 1) := by decide +kernel
theorem dX1_block_13 : decode cX1_block 13 = .ok (.iadd, 1) := by decide +kernel
theorem dX1_block_14 : decode cX1_block 14 = .ok (.invokevirtual 36, 3) := by decide +kernel
theorem dX1_block_17 : decode cX1_block 17 = .ok (.ifCond .eq 16, 3) := by decide +kernel
theorem dX1_block_20 : decode cX1_block 20 = .ok (.aload_n 0, 1) := by decide +kernel
theorem dX1_block_21 : decode cX1_block 21 = .ok (.bipush 125, 2) := by decide +kernel
theorem dX1_block_23 : decode cX1_block 23 = .ok (.invokevirtual 72, 3) := by decide +kernel
theorem dX1_block_26 : decode cX1_block 26 = .ok (.ifCond .eq 7, 3) := by decide +kernel
theorem dX1_block_29 : decode cX1_block 29 = .ok (.iconst 1, 1) := by decide +kernel
theorem dX1_block_30 : decode cX1_block 30 = .ok (.goto 4, 3) := by decide +kernel
theorem dX1_block_33 : decode cX1_block 33 = .ok (.iconst 0, 1) := by decide +kernel
theorem dX1_block_34 : decode cX1_block 34 = .ok (.ireturn, 1) := by decide +kernel
theorem dX1_enclosed_0 : decode cX1_enclosed 0 = .ok (.aload_n 0, 1) := by decide +kernel
theorem dX1_enclosed_1 : decode cX1_enclosed 1 = .ok (.iload_n 1, 1) := by decide +kernel
theorem dX1_enclosed_2 : decode cX1_enclosed 2 = .ok (.iload_n 3, 1) := by decide +kernel
theorem dX1_enclosed_3 : decode cX1_enclosed 3 = .ok (.invokevirtual 108, 3) := by decide +kernel
theorem dX1_enclosed_6 : decode cX1_enclosed 6 = .ok (.ifCond .eq 26, 3) := by decide +kernel
theorem dX1_enclosed_9 : decode cX1_enclosed 9 = .ok (.aload_n 0, 1) := by decide +kernel
theorem dX1_enclosed_10 : decode cX1_enclosed 10 = .ok (.iconst 0, 1) := by decide +kernel
theorem dX1_enclosed_11 : decode cX1_enclosed 11 = .ok (.iload_n 3, 1) := by decide +kernel
theorem dX1_enclosed_12 : decode cX1_enclosed 12 = .ok (.iconst 1, 1) := by decide +kernel
theorem dX1_enclosed_13 : decode cX1_enclosed 13 = .ok (.iadd, 1) := by decide +kernel
theorem dX1_enclosed_14 : decode cX1_enclosed 14 = .ok (.invokevirtual 75, 3) := by decide +kernel
theorem dX1_enclosed_17 : decode cX1_enclosed 17 = .ok (.ifCond .eq 15, 3) := by decide +kernel
theorem dX1_enclosed_20 : decode cX1_enclosed 20 = .ok (.aload_n 0, 1) := by decide +kernel
theorem dX1_enclosed_21 : decode cX1_enclosed 21 = .ok (.iload_n 2, 1) := by decide +kernel
theorem dX1_enclosed_22 : decode cX1_enclosed 22 = .ok (.invokevirtual 72, 3) := by decide +kernel
theorem dX1_enclosed_25 : decode cX1_enclosed 25 = .ok (.ifCond .eq 7, 3) := by decide +kernel
theorem dX1_enclosed_28 : decode cX1_enclosed 28 = .ok (.iconst 1, 1) := by decide +kernel
theorem dX1_enclosed_29 : decode cX1_enclosed 29 = .ok (.goto 4, 3) := by decide +kernel
theorem dX1_enclosed_32 : decode cX1_enclosed 32 = .ok (.iconst 0, 1) := by decide +kernel
theorem dX1_enclosed_33 : decode cX1_enclosed 33 = .ok (.ireturn, 1) := by decide +kernel
theorem dX1_expression_0 : decode cX1_expression 0 = .ok (.aload_n 0, 1) := by decide +kernel
theorem dX1_expression_1 : decode cX1_expression 1 = .ok (.iload_n 1, 1) := by decide +kernel
theorem dX1_expression_2 : decode cX1_expression 2 = .ok (.iload_n 2, 1) := by decide +kernel
theorem dX1_expression_3 : decode cX1_expression 3 = .ok (.invokevirtual 111, 3) := by decide +kernel
theorem dX1_expression_6 : decode cX1_expression 6 = .ok (.istore_n 3, 1) := by decide +kernel
theorem dX1_expression_7 : decode cX1_expression 7 = .ok (.iconst 0, 1) := by decide +kernel
theorem dX1_expression_8 : decode cX1_expression 8 = .ok (.istore 4, 2) := by decide +kernel
theorem dX1_expression_10 : decode cX1_expression 10 = .ok (.iload 4, 2) := by decide +kernel
theorem dX1_expression_12 : decode cX1_expression 12 = .ok (.sipush 400, 3) := by decide +kernel
theorem dX1_expression_15 : decode cX1_expression 15 = .ok (.if_icmp .ge 62, 3) := by decide +kernel
theorem dX1_expression_18 : decode cX1_expression 18 = .ok (.iload_n 3, 1) := by decide +kernel
theorem dX1_expression_19 : decode cX1_expression 19 = .ok (.ifCond .eq 58, 3) := by decide +kernel
theorem dX1_expression_22 : decode cX1_expression 22 = .ok (.aload_n 0, 1) := by decide +kernel
theorem dX1_expression_23 : decode cX1_expression 23 = .ok (.invokevirtual 114, 3) := by decide +kernel
theorem dX1_expression_26 : decode cX1_expression 26 = .ok (.invokestatic 117, 3) := by decide +kernel
theorem dX1_expression_29 : decode cX1_expression 29 = .ok (.iload_n 1, 1) := by decide +kernel
theorem dX1_expression_30 : decode cX1_expression 30 = .ok (.if_icmp .ne 47, 3) := by decide +kernel
theorem dX1_expression_33 : decode cX1_expression 33 = .ok (.aload_n 0, 1) := by decide +kernel
theorem dX1_expression_34 : decode cX1_expression 34 = .ok (.invokevirtual 114, 3) := by decide +kernel
theorem dX1_expression_37 : decode cX1_expression 37 = .ok (.istore 5, 2) := by decide +kernel
theorem dX1_expression_39 : decode cX1_expression 39 = .ok (.aload_n 0, 1) := by decide +kernel
theorem dX1_expression_40 : decode cX1_expression 40 = .ok (.getfield 12, 3) := by decide +kernel
theorem dX1_expression_43 : decode cX1_expression 43 = .ok (.invokevirtual 62, 3) := by decide +kernel
theorem dX1_expression_46 : decode cX1_expression 46 = .ok (.aload_n 0, 1) := by decide +kernel
theorem dX1_expression_47 : decode cX1_expression 47 = .ok (.iload_n 1, 1) := by decide +kernel
theorem dX1_expression_48 : decode cX1_expression 48 = .ok (.iload_n 2, 1) := by decide +kernel
theorem dX1_expression_49 : decode cX1_expression 49 = .ok (.invokevirtual 111, 3) := by decide +kernel
theorem dX1_expression_52 : decode cX1_expression 52 = .ok (.ifCond .eq 17, 3) := by decide +kernel
theorem dX1_expression_55 : decode cX1_expression 55 = .ok (.aload_n 0, 1) := by decide +kernel
theorem dX1_expression_56 : decode cX1_expression 56 = .ok (.iload 5, 2) := by decide +kernel
theorem dX1_expression_58 : decode cX1_expression 58 = .ok (.iconst 0, 1) := by decide +kernel
theorem dX1_expression_59 : decode cX1_expression 59 = .ok (.invokevirtual 46, 3) := by decide +kernel
theorem dX1_expression_62 : decode cX1_expression 62 = .ok (.ifCond .eq 7, 3) := by decide +kernel
theorem dX1_expression_65 : decode cX1_expression 65 = .ok (.iconst 1, 1) := by decide +kernel
theorem dX1_expression_66 : decode cX1_expression 66 = .ok (.goto 4, 3) := by decide +kernel
theorem dX1_expression_69 : decode cX1_expression 69 = .ok (.iconst 0, 1) := by decide +kernel
theorem dX1_expression_70 : decode cX1_expression 70 = .ok (.istore_n 3, 1) := by decide +kernel
theorem dX1_expression_71 : decode cX1_expression 71 = .ok (.iinc 4 1, 3) := by decide +kernel
theorem dX1_expression_74 : decode cX1_expression 74 = .ok (.goto (-64), 3) := by decide +kernel
theorem dX1_expression_77 : decode cX1_expression 77 = .ok (.iload_n 3, 1) := by decide +kernel
theorem dX1_expression_78 : decode cX1_expression 78 = .ok (.ireturn, 1) := by decide +kernel
theorem dX1_operand_0 : decode cX1_operand 0 = .ok (.iload_n 1, 1) := by decide +kernel
theorem dX1_operand_1 : decode cX1_operand 1 = .ok (.iconst 2, 1) := by decide +kernel
theorem dX1_operand_2 : decode cX1_operand 2 = .ok (.if_icmp .lt 11, 3) := by decide +kernel
theorem dX1_operand_5 : decode cX1_operand 5 = .ok (.aload_n 0, 1) := by decide +kernel
theorem dX1_operand_6 : decode cX1_operand 6 = .ok (.iload_n 2, 1) := by decide +kernel
theorem dX1_operand_7 : decode cX1_operand 7 = .ok (.invokevirtual 121, 3) := by decide +kernel
theorem dX1_operand_10 : decode cX1_operand 10 = .ok (.goto 11, 3) := by decide +kernel
theorem dX1_operand_13 : decode cX1_operand 13 = .ok (.aload_n 0, 1) := by decide +kernel
theorem dX1_operand_14 : decode cX1_operand 14 = .ok (.iload_n 1, 1) := by decide +kernel
theorem dX1_operand_15 : decode cX1_operand 15 = .ok (.iconst 1, 1) := by decide +kernel
theorem dX1_operand_16 : decode cX1_operand 16 = .ok (.iadd, 1) := by decide +kernel
theorem dX1_operand_17 : decode cX1_operand 17 = .ok (.iload_n 2, 1) := by decide +kernel
theorem dX1_operand_18 : decode cX1_operand 18 = .ok (.invokevirtual 75, 3) := by decide +kernel
theorem dX1_operand_21 : decode cX1_operand 21 = .ok (.ireturn, 1) := by decide +kernel
theorem dX1_unit_0 : decode cX1_unit 0 = .ok (.aload_n 0, 1) := by decide +kernel
theorem dX1_unit_1 : decode cX1_unit 1 = .ok (.getfield 12, 3) := by decide +kernel
theorem dX1_unit_4 : decode cX1_unit 4 = .ok (.getfield 40, 3) := by decide +kernel
theorem dX1_unit_7 : decode cX1_unit 7 = .ok (.iconst 1, 1) := by decide +kernel
theorem dX1_unit_8 : decode cX1_unit 8 = .ok (.if_icmp .ne 8, 3) := by decide +kernel
theorem dX1_unit_11 : decode cX1_unit 11 = .ok (.aload_n 0, 1) := by decide +kernel
theorem dX1_unit_12 : decode cX1_unit 12 = .ok (.invokevirtual 124, 3) := by decide +kernel
theorem dX1_unit_15 : decode cX1_unit 15 = .ok (.ireturn, 1) := by decide +kernel
theorem dX1_unit_16 : decode cX1_unit 16 = .ok (.aload_n 0, 1) := by decide +kernel
theorem dX1_unit_17 : decode cX1_unit 17 = .ok (.getfield 12, 3) := by decide +kernel
theorem dX1_unit_20 : decode cX1_unit 20 = .ok (.invokevirtual 68, 3) := by decide +kernel
theorem dX1_unit_23 : decode cX1_unit 23 = .ok (.istore_n 2, 1) := by decide +kernel
theorem dX1_unit_24 : decode cX1_unit 24 = .ok (.iload_n 2, 1) := by decide +kernel
theorem dX1_unit_25 : decode cX1_unit 25 = .ok (.iconst (-1), 1) := by decide +kernel
theorem dX1_unit_26 : decode cX1_unit 26 = .ok (.if_icmp .eq 17, 3) := by decide +kernel
theorem dX1_unit_29 : decode cX1_unit 29 = .ok (.aload_n 0, 1) := by decide +kernel
theorem dX1_unit_30 : decode cX1_unit 30 = .ok (.getfield 12, 3) := by decide +kernel
theorem dX1_unit_33 : decode cX1_unit 33 = .ok (.invokevirtual 62, 3) := by decide +kernel
theorem dX1_unit_36 : decode cX1_unit 36 = .ok (.aload_n 0, 1) := by decide +kernel
theorem dX1_unit_37 : decode cX1_unit 37 = .ok (.iconst 2, 1) := by decide +kernel
theorem dX1_unit_38 : decode cX1_unit 38 = .ok (.iload_n 2, 1) := by decide +kernel
theorem dX1_unit_39 : decode cX1_unit 39 = .ok (.invokevirtual 46, 3) := by decide +kernel
theorem dX1_unit_42 : decode cX1_unit 42 = .ok (.ireturn, 1) := by decide +kernel
theorem dX1_unit_43 : decode cX1_unit 43 = .ok (.aload_n 0, 1) := by decide +kernel
theorem dX1_unit_44 : decode cX1_unit 44 = .ok (.getfield 12, 3) := by decide +kernel
theorem dX1_unit_47 : decode cX1_unit 47 = .ok (.ldc 78, 2) := by decide +kernel
theorem dX1_unit_49 : decode cX1_unit 49 = .ok (.invokevirtual 80, 3) := by decide +kernel
theorem dX1_unit_52 : decode cX1_unit 52 = .ok (.ifCond .eq 30, 3) := by decide +kernel
theorem dX1_unit_55 : decode cX1_unit 55 = .ok (.aload_n 0, 1) := by decide +kernel
theorem dX1_unit_56 : decode cX1_unit 56 = .ok (.bipush 91, 2) := by decide +kernel
theorem dX1_unit_58 : decode cX1_unit 58 = .ok (.bipush 93, 2) := by decide +kernel
theorem dX1_unit_60 : decode cX1_unit 60 = .ok (.iload_n 1, 1) := by decide +kernel
theorem dX1_unit_61 : decode cX1_unit 61 = .ok (.invokevirtual 84, 3) := by decide +kernel
theorem dX1_unit_64 : decode cX1_unit 64 = .ok (.ifCond .eq 16, 3) := by decide +kernel
theorem dX1_unit_67 : decode cX1_unit 67 = .ok (.aload_n 0, 1) := by decide +kernel
theorem dX1_unit_68 : decode cX1_unit 68 = .ok (.iconst 4, 1) := by decide +kernel
theorem dX1_unit_69 : decode cX1_unit 69 = .ok (.iconst 0, 1) := by decide +kernel
theorem dX1_unit_70 : decode cX1_unit 70 = .ok (.invokevirtual 46, 3) := by decide +kernel
theorem dX1_unit_73 : decode cX1_unit 73 = .ok (.ifCond .eq 7, 3) := by decide +kernel
theorem dX1_unit_76 : decode cX1_unit 76 = .ok (.iconst 1, 1) := by decide +kernel
theorem dX1_unit_77 : decode cX1_unit 77 = .ok (.goto 4, 3) := by decide +kernel
theorem dX1_unit_80 : decode cX1_unit 80 = .ok (.iconst 0, 1) := by decide +kernel
theorem dX1_unit_81 : decode cX1_unit 81 = .ok (.ireturn, 1) := by decide +kernel
theorem dX1_unit_82 : decode cX1_unit 82 = .ok (.aload_n 0, 1) := by decide +kernel
theorem dX1_unit_83 : decode cX1_unit 83 = .ok (.bipush 40, 2) := by decide +kernel
theorem dX1_unit_85 : decode cX1_unit 85 = .ok (.bipush 41, 2) := by decide +kernel
theorem dX1_unit_87 : decode cX1_unit 87 = .ok (.iload_n 1, 1) := by decide +kernel
theorem dX1_unit_88 : decode cX1_unit 88 = .ok (.invokevirtual 84, 3) := by decide +kernel
theorem dX1_unit_91 : decode cX1_unit 91 = .ok (.ireturn, 1) := by decide +kernel
theorem dX1_number_0 : decode cX1_number 0 = .ok (.aload_n 0, 1) := by decide +kernel
theorem dX1_number_1 : decode cX1_number 1 = .ok (.getfield 12, 3) := by decide +kernel
theorem dX1_number_4 : decode cX1_number 4 = .ok (.getfield 128, 3) := by decide +kernel
theorem dX1_number_7 : decode cX1_number 7 = .ok (.ldc 131, 2) := by decide +kernel
theorem dX1_number_9 : decode cX1_number 9 = .ok (.if_icmp .le 9, 3) := by decide +kernel
theorem dX1_number_12 : decode cX1_number 12 = .ok (.aload_n 0, 1) := by decide +kernel
theorem dX1_number_13 : decode cX1_number 13 = .ok (.iconst 2, 1) := by decide +kernel
theorem dX1_number_14 : decode cX1_number 14 = .ok (.invokevirtual 43, 3) := by decide +kernel
theorem dX1_number_17 : decode cX1_number 17 = .ok (.ireturn, 1) := by decide +kernel
theorem dX1_number_18 : decode cX1_number 18 = .ok (.aload_n 0, 1) := by decide +kernel
theorem dX1_number_19 : decode cX1_number 19 = .ok (.iconst 1, 1) := by decide +kernel
theorem dX1_number_20 : decode cX1_number 20 = .ok (.aload_n 0, 1) := by decide +kernel
theorem dX1_number_21 : decode cX1_number 21 = .ok (.getfield 12, 3) := by decide +kernel
theorem dX1_number_24 : decode cX1_number 24 = .ok (.getfield 128, 3) := by decide +kernel
theorem dX1_number_27 : decode cX1_number 27 = .ok (.invokevirtual 46, 3) := by decide +kernel
theorem dX1_number_30 : decode cX1_number 30 = .ok (.pop, 1) := by decide +kernel
theorem dX1_number_31 : decode cX1_number 31 = .ok (.aload_n 0, 1) := by decide +kernel
theorem dX1_number_32 : decode cX1_number 32 = .ok (.getfield 12, 3) := by decide +kernel
theorem dX1_number_35 : decode cX1_number 35 = .ok (.invokevirtual 62, 3) := by decide +kernel
theorem dX1_number_38 : decode cX1_number 38 = .ok (.iconst 1, 1) := by decide +kernel
theorem dX1_number_39 : decode cX1_number 39 = .ok (.ireturn, 1) := by decide +kernel
theorem dX1_signKind_0 : decode cX1_signKind 0 = .ok (.aload_n 0, 1) := by decide +kernel
theorem dX1_signKind_1 : decode cX1_signKind 1 = .ok (.getfield 12, 3) := by decide +kernel
theorem dX1_signKind_4 : decode cX1_signKind 4 = .ok (.getfield 40, 3) := by decide +kernel
theorem dX1_signKind_7 : decode cX1_signKind 7 = .ok (.iconst 3, 1) := by decide +kernel
theorem dX1_signKind_8 : decode cX1_signKind 8 = .ok (.if_icmp .eq 5, 3) := by decide +kernel
theorem dX1_signKind_11 : decode cX1_signKind 11 = .ok (.iconst (-1), 1) := by decide +kernel
theorem dX1_signKind_12 : decode cX1_signKind 12 = .ok (.ireturn, 1) := by decide +kernel
theorem dX1_signKind_13 : decode cX1_signKind 13 = .ok (.aload_n 0, 1) := by decide +kernel
theorem dX1_signKind_14 : decode cX1_signKind 14 = .ok (.getfield 12, 3) := by decide +kernel
theorem dX1_signKind_17 : decode cX1_signKind 17 = .ok (.getfield 128, 3) := by decide +kernel
theorem dX1_signKind_20 : decode cX1_signKind 20 = .ok (.tableswitch 144 37 62 #[132, 144, 144, 144, 144, 126, 120, 144, 123, 144, 129, 144, 144, 144, 144, 144, 144, 144, 144, 144, 144, 144, 144, 135, 141, 138], 120) := by decide +kernel
theorem dX1_signKind_140 : decode cX1_signKind 140 = .ok (.bipush 6, 2) := by decide +kernel
theorem dX1_signKind_142 : decode cX1_signKind 142 = .ok (.ireturn, 1) := by decide +kernel
theorem dX1_signKind_143 : decode cX1_signKind 143 = .ok (.bipush 7, 2) := by decide +kernel
theorem dX1_signKind_145 : decode cX1_signKind 145 = .ok (.ireturn, 1) := by decide +kernel
theorem dX1_signKind_146 : decode cX1_signKind 146 = .ok (.bipush 8, 2) := by decide +kernel
theorem dX1_signKind_148 : decode cX1_signKind 148 = .ok (.ireturn, 1) := by decide +kernel
theorem dX1_signKind_149 : decode cX1_signKind 149 = .ok (.bipush 9, 2) := by decide +kernel
theorem dX1_signKind_151 : decode cX1_signKind 151 = .ok (.ireturn, 1) := by decide +kernel
theorem dX1_signKind_152 : decode cX1_signKind 152 = .ok (.bipush 10, 2) := by decide +kernel
theorem dX1_signKind_154 : decode cX1_signKind 154 = .ok (.ireturn, 1) := by decide +kernel
theorem dX1_signKind_155 : decode cX1_signKind 155 = .ok (.bipush 11, 2) := by decide +kernel
theorem dX1_signKind_157 : decode cX1_signKind 157 = .ok (.ireturn, 1) := by decide +kernel
theorem dX1_signKind_158 : decode cX1_signKind 158 = .ok (.bipush 12, 2) := by decide +kernel
theorem dX1_signKind_160 : decode cX1_signKind 160 = .ok (.ireturn, 1) := by decide +kernel
theorem dX1_signKind_161 : decode cX1_signKind 161 = .ok (.bipush 13, 2) := by decide +kernel
theorem dX1_signKind_163 : decode cX1_signKind 163 = .ok (.ireturn, 1) := by decide +kernel
theorem dX1_signKind_164 : decode cX1_signKind 164 = .ok (.iconst (-1), 1) := by decide +kernel
theorem dX1_signKind_165 : decode cX1_signKind 165 = .ok (.ireturn, 1) := by decide +kernel
theorem dX1_signLevel_0 : decode cX1_signLevel 0 = .ok (.iload_n 0, 1) := by decide +kernel
theorem dX1_signLevel_1 : decode cX1_signLevel 1 = .ok (.iconst (-1), 1) := by decide +kernel
theorem dX1_signLevel_2 : decode cX1_signLevel 2 = .ok (.if_icmp .ne 5, 3) := by decide +kernel
theorem dX1_signLevel_5 : decode cX1_signLevel 5 = .ok (.iconst (-1), 1) := by decide +kernel
theorem dX1_signLevel_6 : decode cX1_signLevel 6 = .ok (.ireturn, 1) := by decide +kernel
theorem dX1_signLevel_7 : decode cX1_signLevel 7 = .ok (.iload_n 0, 1) := by decide +kernel
theorem dX1_signLevel_8 : decode cX1_signLevel 8 = .ok (.bipush 11, 2) := by decide +kernel
theorem dX1_signLevel_10 : decode cX1_signLevel 10 = .ok (.if_icmp .lt 5, 3) := by decide +kernel
theorem dX1_signLevel_13 : decode cX1_signLevel 13 = .ok (.iconst 0, 1) := by decide +kernel
theorem dX1_signLevel_14 : decode cX1_signLevel 14 = .ok (.ireturn, 1) := by decide +kernel
theorem dX1_signLevel_15 : decode cX1_signLevel 15 = .ok (.iload_n 0, 1) := by decide +kernel
theorem dX1_signLevel_16 : decode cX1_signLevel 16 = .ok (.bipush 8, 2) := by decide +kernel
theorem dX1_signLevel_18 : decode cX1_signLevel 18 = .ok (.if_icmp .lt 7, 3) := by decide +kernel
theorem dX1_signLevel_21 : decode cX1_signLevel 21 = .ok (.iconst 2, 1) := by decide +kernel
theorem dX1_signLevel_22 : decode cX1_signLevel 22 = .ok (.goto 4, 3) := by decide +kernel
theorem dX1_signLevel_25 : decode cX1_signLevel 25 = .ok (.iconst 1, 1) := by decide +kernel
theorem dX1_signLevel_26 : decode cX1_signLevel 26 = .ok (.ireturn, 1) := by decide +kernel
