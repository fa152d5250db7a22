theorem dX4_leaves_0 : decode cX4_leaves 0 = .ok (.aload_n 0, 1) := by decide +kernel
theorem dX4_leaves_1 : decode cX4_leaves 1 = .ok (.iload_n 1, 1) := by decide +kernel
theorem dX4_leaves_2 : decode cX4_leaves 2 = .ok (.invokevirtual 9, 3) := by decide +kernel
theorem dX4_leaves_5 : decode cX4_leaves 5 = .ok (.iconst 0, 1) := by decide +kernel
theorem dX4_leaves_6 : decode cX4_leaves 6 = .ok (.istore_n 2, 1) := by decide +kernel
theorem dX4_leaves_7 : decode cX4_leaves 7 = .ok (.iload_n 2, 1) := by decide +kernel
theorem dX4_leaves_8 : decode cX4_leaves 8 = .ok (.sipush 400, 3) := by decide +kernel
theorem dX4_leaves_11 : decode cX4_leaves 11 = .ok (.if_icmp .ge 34, 3) := by decide +kernel
theorem dX4_leaves_14 : decode cX4_leaves 14 = .ok (.aload_n 0, 1) := by decide +kernel
theorem dX4_leaves_15 : decode cX4_leaves 15 = .ok (.ldc 15, 2) := by decide +kernel
theorem dX4_leaves_17 : decode cX4_leaves 17 = .ok (.invokevirtual 17, 3) := by decide +kernel
theorem dX4_leaves_20 : decode cX4_leaves 20 = .ok (.ifCond .eq 25, 3) := by decide +kernel
theorem dX4_leaves_23 : decode cX4_leaves 23 = .ok (.aload_n 0, 1) := by decide +kernel
theorem dX4_leaves_24 : decode cX4_leaves 24 = .ok (.invokevirtual 21, 3) := by decide +kernel
theorem dX4_leaves_27 : decode cX4_leaves 27 = .ok (.aload_n 0, 1) := by decide +kernel
theorem dX4_leaves_28 : decode cX4_leaves 28 = .ok (.invokestatic 24, 3) := by decide +kernel
theorem dX4_leaves_31 : decode cX4_leaves 31 = .ok (.ifCond .ne 8, 3) := by decide +kernel
theorem dX4_leaves_34 : decode cX4_leaves 34 = .ok (.aload_n 0, 1) := by decide +kernel
theorem dX4_leaves_35 : decode cX4_leaves 35 = .ok (.getfield 30, 3) := by decide +kernel
theorem dX4_leaves_38 : decode cX4_leaves 38 = .ok (.ireturn, 1) := by decide +kernel
theorem dX4_leaves_39 : decode cX4_leaves 39 = .ok (.iinc 2 1, 3) := by decide +kernel
theorem dX4_leaves_42 : decode cX4_leaves 42 = .ok (.goto (-35), 3) := by decide +kernel
theorem dX4_leaves_45 : decode cX4_leaves 45 = .ok (.aload_n 0, 1) := by decide +kernel
theorem dX4_leaves_46 : decode cX4_leaves 46 = .ok (.getfield 34, 3) := by decide +kernel
theorem dX4_leaves_49 : decode cX4_leaves 49 = .ok (.ifCond .ne 7, 3) := by decide +kernel
theorem dX4_leaves_52 : decode cX4_leaves 52 = .ok (.iconst (-1), 1) := by decide +kernel
theorem dX4_leaves_53 : decode cX4_leaves 53 = .ok (.goto 7, 3) := by decide +kernel
theorem dX4_leaves_56 : decode cX4_leaves 56 = .ok (.aload_n 0, 1) := by decide +kernel
theorem dX4_leaves_57 : decode cX4_leaves 57 = .ok (.getfield 30, 3) := by decide +kernel
theorem dX4_leaves_60 : decode cX4_leaves 60 = .ok (.ireturn, 1) := by decide +kernel
theorem dX4_terms_0 : decode cX4_terms 0 = .ok (.aload_n 0, 1) := by decide +kernel
theorem dX4_terms_1 : decode cX4_terms 1 = .ok (.invokestatic 37, 3) := by decide +kernel
theorem dX4_terms_4 : decode cX4_terms 4 = .ok (.istore_n 1, 1) := by decide +kernel
theorem dX4_terms_5 : decode cX4_terms 5 = .ok (.iconst 0, 1) := by decide +kernel
theorem dX4_terms_6 : decode cX4_terms 6 = .ok (.istore_n 2, 1) := by decide +kernel
theorem dX4_terms_7 : decode cX4_terms 7 = .ok (.iload_n 2, 1) := by decide +kernel
theorem dX4_terms_8 : decode cX4_terms 8 = .ok (.sipush 400, 3) := by decide +kernel
theorem dX4_terms_11 : decode cX4_terms 11 = .ok (.if_icmp .ge 40, 3) := by decide +kernel
theorem dX4_terms_14 : decode cX4_terms 14 = .ok (.iload_n 1, 1) := by decide +kernel
theorem dX4_terms_15 : decode cX4_terms 15 = .ok (.ifCond .eq 36, 3) := by decide +kernel
theorem dX4_terms_18 : decode cX4_terms 18 = .ok (.aload_n 0, 1) := by decide +kernel
theorem dX4_terms_19 : decode cX4_terms 19 = .ok (.bipush 43, 2) := by decide +kernel
theorem dX4_terms_21 : decode cX4_terms 21 = .ok (.invokevirtual 40, 3) := by decide +kernel
theorem dX4_terms_24 : decode cX4_terms 24 = .ok (.ifCond .ne 12, 3) := by decide +kernel
theorem dX4_terms_27 : decode cX4_terms 27 = .ok (.aload_n 0, 1) := by decide +kernel
theorem dX4_terms_28 : decode cX4_terms 28 = .ok (.bipush 45, 2) := by decide +kernel
theorem dX4_terms_30 : decode cX4_terms 30 = .ok (.invokevirtual 40, 3) := by decide +kernel
theorem dX4_terms_33 : decode cX4_terms 33 = .ok (.ifCond .eq 18, 3) := by decide +kernel
theorem dX4_terms_36 : decode cX4_terms 36 = .ok (.aload_n 0, 1) := by decide +kernel
theorem dX4_terms_37 : decode cX4_terms 37 = .ok (.invokevirtual 21, 3) := by decide +kernel
theorem dX4_terms_40 : decode cX4_terms 40 = .ok (.aload_n 0, 1) := by decide +kernel
theorem dX4_terms_41 : decode cX4_terms 41 = .ok (.invokestatic 37, 3) := by decide +kernel
theorem dX4_terms_44 : decode cX4_terms 44 = .ok (.istore_n 1, 1) := by decide +kernel
theorem dX4_terms_45 : decode cX4_terms 45 = .ok (.iinc 2 1, 3) := by decide +kernel
theorem dX4_terms_48 : decode cX4_terms 48 = .ok (.goto (-41), 3) := by decide +kernel
theorem dX4_terms_51 : decode cX4_terms 51 = .ok (.iload_n 1, 1) := by decide +kernel
theorem dX4_terms_52 : decode cX4_terms 52 = .ok (.ifCond .eq 16, 3) := by decide +kernel
theorem dX4_terms_55 : decode cX4_terms 55 = .ok (.aload_n 0, 1) := by decide +kernel
theorem dX4_terms_56 : decode cX4_terms 56 = .ok (.bipush 59, 2) := by decide +kernel
theorem dX4_terms_58 : decode cX4_terms 58 = .ok (.invokevirtual 44, 3) := by decide +kernel
theorem dX4_terms_61 : decode cX4_terms 61 = .ok (.ifCond .eq 7, 3) := by decide +kernel
theorem dX4_terms_64 : decode cX4_terms 64 = .ok (.iconst 1, 1) := by decide +kernel
theorem dX4_terms_65 : decode cX4_terms 65 = .ok (.goto 4, 3) := by decide +kernel
theorem dX4_terms_68 : decode cX4_terms 68 = .ok (.iconst 0, 1) := by decide +kernel
theorem dX4_terms_69 : decode cX4_terms 69 = .ok (.ireturn, 1) := by decide +kernel
theorem dX4_term_0 : decode cX4_term 0 = .ok (.aload_n 0, 1) := by decide +kernel
theorem dX4_term_1 : decode cX4_term 1 = .ok (.invokevirtual 47, 3) := by decide +kernel
theorem dX4_term_4 : decode cX4_term 4 = .ok (.ifCond .eq 14, 3) := by decide +kernel
theorem dX4_term_7 : decode cX4_term 7 = .ok (.aload_n 0, 1) := by decide +kernel
theorem dX4_term_8 : decode cX4_term 8 = .ok (.bipush 42, 2) := by decide +kernel
theorem dX4_term_10 : decode cX4_term 10 = .ok (.invokevirtual 44, 3) := by decide +kernel
theorem dX4_term_13 : decode cX4_term 13 = .ok (.ifCond .ne 5, 3) := by decide +kernel
theorem dX4_term_16 : decode cX4_term 16 = .ok (.iconst 0, 1) := by decide +kernel
theorem dX4_term_17 : decode cX4_term 17 = .ok (.ireturn, 1) := by decide +kernel
theorem dX4_term_18 : decode cX4_term 18 = .ok (.aload_n 0, 1) := by decide +kernel
theorem dX4_term_19 : decode cX4_term 19 = .ok (.ldc 51, 2) := by decide +kernel
theorem dX4_term_21 : decode cX4_term 21 = .ok (.invokevirtual 53, 3) := by decide +kernel
theorem dX4_term_24 : decode cX4_term 24 = .ok (.ifCond .eq 32, 3) := by decide +kernel
theorem dX4_term_27 : decode cX4_term 27 = .ok (.aload_n 0, 1) := by decide +kernel
theorem dX4_term_28 : decode cX4_term 28 = .ok (.bipush 91, 2) := by decide +kernel
theorem dX4_term_30 : decode cX4_term 30 = .ok (.invokevirtual 44, 3) := by decide +kernel
theorem dX4_term_33 : decode cX4_term 33 = .ok (.ifCond .eq 23, 3) := by decide +kernel
theorem dX4_term_36 : decode cX4_term 36 = .ok (.aload_n 0, 1) := by decide +kernel
theorem dX4_term_37 : decode cX4_term 37 = .ok (.invokevirtual 47, 3) := by decide +kernel
theorem dX4_term_40 : decode cX4_term 40 = .ok (.ifCond .eq 16, 3) := by decide +kernel
theorem dX4_term_43 : decode cX4_term 43 = .ok (.aload_n 0, 1) := by decide +kernel
theorem dX4_term_44 : decode cX4_term 44 = .ok (.bipush 93, 2) := by decide +kernel
theorem dX4_term_46 : decode cX4_term 46 = .ok (.invokevirtual 44, 3) := by decide +kernel
theorem dX4_term_49 : decode cX4_term 49 = .ok (.ifCond .eq 7, 3) := by decide +kernel
theorem dX4_term_52 : decode cX4_term 52 = .ok (.iconst 1, 1) := by decide +kernel
theorem dX4_term_53 : decode cX4_term 53 = .ok (.goto 4, 3) := by decide +kernel
theorem dX4_term_56 : decode cX4_term 56 = .ok (.iconst 0, 1) := by decide +kernel
theorem dX4_term_57 : decode cX4_term 57 = .ok (.ireturn, 1) := by decide +kernel
