theorem dX5_init_0 : decode cX5_init 0 = .ok (.aload_n 0, 1) := by decide +kernel
theorem dX5_init_1 : decode cX5_init 1 = .ok (.invokespecial 3, 3) := by decide +kernel
theorem dX5_init_4 : decode cX5_init 4 = .ok (.aload_n 0, 1) := by decide +kernel
theorem dX5_init_5 : decode cX5_init 5 = .ok (.sipush 128, 3) := by decide +kernel
theorem dX5_init_8 : decode cX5_init 8 = .ok (.newarray .int, 2) := by decide +kernel
theorem dX5_init_10 : decode cX5_init 10 = .ok (.putfield 9, 3) := by decide +kernel
theorem dX5_init_13 : decode cX5_init 13 = .ok (.aload_n 0, 1) := by decide +kernel
theorem dX5_init_14 : decode cX5_init 14 = .ok (.bipush 10, 2) := by decide +kernel
theorem dX5_init_16 : decode cX5_init 16 = .ok (.newarray .int, 2) := by decide +kernel
theorem dX5_init_18 : decode cX5_init 18 = .ok (.putfield 15, 3) := by decide +kernel
theorem dX5_init_21 : decode cX5_init 21 = .ok (.aload_n 0, 1) := by decide +kernel
theorem dX5_init_22 : decode cX5_init 22 = .ok (.bipush 32, 2) := by decide +kernel
theorem dX5_init_24 : decode cX5_init 24 = .ok (.newarray .int, 2) := by decide +kernel
theorem dX5_init_26 : decode cX5_init 26 = .ok (.putfield 18, 3) := by decide +kernel
theorem dX5_init_29 : decode cX5_init 29 = .ok (.return_, 1) := by decide +kernel
theorem dX5_forget_0 : decode cX5_forget 0 = .ok (.aload_n 0, 1) := by decide +kernel
theorem dX5_forget_1 : decode cX5_forget 1 = .ok (.aconst_null, 1) := by decide +kernel
theorem dX5_forget_2 : decode cX5_forget 2 = .ok (.putfield 21, 3) := by decide +kernel
theorem dX5_forget_5 : decode cX5_forget 5 = .ok (.return_, 1) := by decide +kernel
theorem dX5_show_0 : decode cX5_show 0 = .ok (.aload_n 0, 1) := by decide +kernel
theorem dX5_show_1 : decode cX5_show 1 = .ok (.getfield 21, 3) := by decide +kernel
theorem dX5_show_4 : decode cX5_show 4 = .ok (.aload_n 1, 1) := by decide +kernel
theorem dX5_show_5 : decode cX5_show 5 = .ok (.if_acmp .ne 11, 3) := by decide +kernel
theorem dX5_show_8 : decode cX5_show 8 = .ok (.iload_n 2, 1) := by decide +kernel
theorem dX5_show_9 : decode cX5_show 9 = .ok (.aload_n 0, 1) := by decide +kernel
theorem dX5_show_10 : decode cX5_show 10 = .ok (.getfield 25, 3) := by decide +kernel
theorem dX5_show_13 : decode cX5_show 13 = .ok (.if_icmp .ge 41, 3) := by decide +kernel
theorem dX5_show_16 : decode cX5_show 16 = .ok (.aload_n 0, 1) := by decide +kernel
theorem dX5_show_17 : decode cX5_show 17 = .ok (.invokevirtual 29, 3) := by decide +kernel
theorem dX5_show_20 : decode cX5_show 20 = .ok (.iconst 0, 1) := by decide +kernel
theorem dX5_show_21 : decode cX5_show 21 = .ok (.istore_n 3, 1) := by decide +kernel
theorem dX5_show_22 : decode cX5_show 22 = .ok (.iload_n 3, 1) := by decide +kernel
theorem dX5_show_23 : decode cX5_show 23 = .ok (.bipush 64, 2) := by decide +kernel
theorem dX5_show_25 : decode cX5_show 25 = .ok (.if_icmp .ge 24, 3) := by decide +kernel
theorem dX5_show_28 : decode cX5_show 28 = .ok (.aload_n 0, 1) := by decide +kernel
theorem dX5_show_29 : decode cX5_show 29 = .ok (.getfield 9, 3) := by decide +kernel
theorem dX5_show_32 : decode cX5_show 32 = .ok (.bipush 64, 2) := by decide +kernel
theorem dX5_show_34 : decode cX5_show 34 = .ok (.iload_n 3, 1) := by decide +kernel
theorem dX5_show_35 : decode cX5_show 35 = .ok (.iadd, 1) := by decide +kernel
theorem dX5_show_36 : decode cX5_show 36 = .ok (.aload_n 1, 1) := by decide +kernel
theorem dX5_show_37 : decode cX5_show 37 = .ok (.getfield 32, 3) := by decide +kernel
theorem dX5_show_40 : decode cX5_show 40 = .ok (.iload_n 3, 1) := by decide +kernel
theorem dX5_show_41 : decode cX5_show 41 = .ok (.iaload, 1) := by decide +kernel
theorem dX5_show_42 : decode cX5_show 42 = .ok (.iastore, 1) := by decide +kernel
theorem dX5_show_43 : decode cX5_show 43 = .ok (.iinc 3 1, 3) := by decide +kernel
theorem dX5_show_46 : decode cX5_show 46 = .ok (.goto (-24), 3) := by decide +kernel
theorem dX5_show_49 : decode cX5_show 49 = .ok (.aload_n 0, 1) := by decide +kernel
theorem dX5_show_50 : decode cX5_show 50 = .ok (.aload_n 1, 1) := by decide +kernel
theorem dX5_show_51 : decode cX5_show 51 = .ok (.putfield 21, 3) := by decide +kernel
theorem dX5_show_54 : decode cX5_show 54 = .ok (.aload_n 0, 1) := by decide +kernel
theorem dX5_show_55 : decode cX5_show 55 = .ok (.aload_n 1, 1) := by decide +kernel
theorem dX5_show_56 : decode cX5_show 56 = .ok (.iload_n 2, 1) := by decide +kernel
theorem dX5_show_57 : decode cX5_show 57 = .ok (.invokevirtual 37, 3) := by decide +kernel
theorem dX5_show_60 : decode cX5_show 60 = .ok (.return_, 1) := by decide +kernel
theorem dX5_clear_0 : decode cX5_clear 0 = .ok (.iconst 0, 1) := by decide +kernel
theorem dX5_clear_1 : decode cX5_clear 1 = .ok (.istore_n 1, 1) := by decide +kernel
theorem dX5_clear_2 : decode cX5_clear 2 = .ok (.iload_n 1, 1) := by decide +kernel
theorem dX5_clear_3 : decode cX5_clear 3 = .ok (.sipush 128, 3) := by decide +kernel
theorem dX5_clear_6 : decode cX5_clear 6 = .ok (.if_icmp .ge 16, 3) := by decide +kernel
theorem dX5_clear_9 : decode cX5_clear 9 = .ok (.aload_n 0, 1) := by decide +kernel
theorem dX5_clear_10 : decode cX5_clear 10 = .ok (.getfield 9, 3) := by decide +kernel
theorem dX5_clear_13 : decode cX5_clear 13 = .ok (.iload_n 1, 1) := by decide +kernel
theorem dX5_clear_14 : decode cX5_clear 14 = .ok (.iconst 0, 1) := by decide +kernel
theorem dX5_clear_15 : decode cX5_clear 15 = .ok (.iastore, 1) := by decide +kernel
theorem dX5_clear_16 : decode cX5_clear 16 = .ok (.iinc 1 1, 3) := by decide +kernel
theorem dX5_clear_19 : decode cX5_clear 19 = .ok (.goto (-17), 3) := by decide +kernel
theorem dX5_clear_22 : decode cX5_clear 22 = .ok (.iconst 0, 1) := by decide +kernel
theorem dX5_clear_23 : decode cX5_clear 23 = .ok (.istore_n 1, 1) := by decide +kernel
theorem dX5_clear_24 : decode cX5_clear 24 = .ok (.iload_n 1, 1) := by decide +kernel
theorem dX5_clear_25 : decode cX5_clear 25 = .ok (.bipush 10, 2) := by decide +kernel
theorem dX5_clear_27 : decode cX5_clear 27 = .ok (.if_icmp .ge 16, 3) := by decide +kernel
theorem dX5_clear_30 : decode cX5_clear 30 = .ok (.aload_n 0, 1) := by decide +kernel
theorem dX5_clear_31 : decode cX5_clear 31 = .ok (.getfield 15, 3) := by decide +kernel
theorem dX5_clear_34 : decode cX5_clear 34 = .ok (.iload_n 1, 1) := by decide +kernel
theorem dX5_clear_35 : decode cX5_clear 35 = .ok (.iconst 0, 1) := by decide +kernel
theorem dX5_clear_36 : decode cX5_clear 36 = .ok (.iastore, 1) := by decide +kernel
theorem dX5_clear_37 : decode cX5_clear 37 = .ok (.iinc 1 1, 3) := by decide +kernel
theorem dX5_clear_40 : decode cX5_clear 40 = .ok (.goto (-16), 3) := by decide +kernel
theorem dX5_clear_43 : decode cX5_clear 43 = .ok (.aload_n 0, 1) := by decide +kernel
theorem dX5_clear_44 : decode cX5_clear 44 = .ok (.iconst 0, 1) := by decide +kernel
theorem dX5_clear_45 : decode cX5_clear 45 = .ok (.putfield 25, 3) := by decide +kernel
theorem dX5_clear_48 : decode cX5_clear 48 = .ok (.return_, 1) := by decide +kernel
theorem dX5_runTo_0 : decode cX5_runTo 0 = .ok (.aload_n 0, 1) := by decide +kernel
theorem dX5_runTo_1 : decode cX5_runTo 1 = .ok (.getfield 25, 3) := by decide +kernel
theorem dX5_runTo_4 : decode cX5_runTo 4 = .ok (.istore_n 3, 1) := by decide +kernel
theorem dX5_runTo_5 : decode cX5_runTo 5 = .ok (.iload_n 3, 1) := by decide +kernel
theorem dX5_runTo_6 : decode cX5_runTo 6 = .ok (.iload_n 2, 1) := by decide +kernel
theorem dX5_runTo_7 : decode cX5_runTo 7 = .ok (.if_icmp .ge 62, 3) := by decide +kernel
theorem dX5_runTo_10 : decode cX5_runTo 10 = .ok (.aload_n 0, 1) := by decide +kernel
theorem dX5_runTo_11 : decode cX5_runTo 11 = .ok (.aload_n 1, 1) := by decide +kernel
theorem dX5_runTo_12 : decode cX5_runTo 12 = .ok (.invokevirtual 41, 3) := by decide +kernel
theorem dX5_runTo_15 : decode cX5_runTo 15 = .ok (.ifCond .ne 54, 3) := by decide +kernel
theorem dX5_runTo_18 : decode cX5_runTo 18 = .ok (.aload_n 0, 1) := by decide +kernel
theorem dX5_runTo_19 : decode cX5_runTo 19 = .ok (.getfield 9, 3) := by decide +kernel
theorem dX5_runTo_22 : decode cX5_runTo 22 = .ok (.iconst 0, 1) := by decide +kernel
theorem dX5_runTo_23 : decode cX5_runTo 23 = .ok (.iaload, 1) := by decide +kernel
theorem dX5_runTo_24 : decode cX5_runTo 24 = .ok (.istore 4, 2) := by decide +kernel
theorem dX5_runTo_26 : decode cX5_runTo 26 = .ok (.aload_n 1, 1) := by decide +kernel
theorem dX5_runTo_27 : decode cX5_runTo 27 = .ok (.iload 4, 2) := by decide +kernel
theorem dX5_runTo_29 : decode cX5_runTo 29 = .ok (.invokevirtual 45, 3) := by decide +kernel
theorem dX5_runTo_32 : decode cX5_runTo 32 = .ok (.ifCond .eq 21, 3) := by decide +kernel
theorem dX5_runTo_35 : decode cX5_runTo 35 = .ok (.aload_n 0, 1) := by decide +kernel
theorem dX5_runTo_36 : decode cX5_runTo 36 = .ok (.aload_n 1, 1) := by decide +kernel
theorem dX5_runTo_37 : decode cX5_runTo 37 = .ok (.getfield 49, 3) := by decide +kernel
theorem dX5_runTo_40 : decode cX5_runTo 40 = .ok (.iload 4, 2) := by decide +kernel
theorem dX5_runTo_42 : decode cX5_runTo 42 = .ok (.iaload, 1) := by decide +kernel
theorem dX5_runTo_43 : decode cX5_runTo 43 = .ok (.aload_n 1, 1) := by decide +kernel
theorem dX5_runTo_44 : decode cX5_runTo 44 = .ok (.getfield 52, 3) := by decide +kernel
theorem dX5_runTo_47 : decode cX5_runTo 47 = .ok (.iload 4, 2) := by decide +kernel
theorem dX5_runTo_49 : decode cX5_runTo 49 = .ok (.iaload, 1) := by decide +kernel
theorem dX5_runTo_50 : decode cX5_runTo 50 = .ok (.invokevirtual 55, 3) := by decide +kernel
theorem dX5_runTo_53 : decode cX5_runTo 53 = .ok (.aload_n 0, 1) := by decide +kernel
theorem dX5_runTo_54 : decode cX5_runTo 54 = .ok (.dup, 1) := by decide +kernel
theorem dX5_runTo_55 : decode cX5_runTo 55 = .ok (.getfield 25, 3) := by decide +kernel
theorem dX5_runTo_58 : decode cX5_runTo 58 = .ok (.iconst 1, 1) := by decide +kernel
theorem dX5_runTo_59 : decode cX5_runTo 59 = .ok (.iadd, 1) := by decide +kernel
theorem dX5_runTo_60 : decode cX5_runTo 60 = .ok (.putfield 25, 3) := by decide +kernel
theorem dX5_runTo_63 : decode cX5_runTo 63 = .ok (.iinc 3 1, 3) := by decide +kernel
theorem dX5_runTo_66 : decode cX5_runTo 66 = .ok (.goto (-61), 3) := by decide +kernel
theorem dX5_runTo_69 : decode cX5_runTo 69 = .ok (.return_, 1) := by decide +kernel
theorem dX5_isHalted_0 : decode cX5_isHalted 0 = .ok (.aload_n 0, 1) := by decide +kernel
theorem dX5_isHalted_1 : decode cX5_isHalted 1 = .ok (.getfield 9, 3) := by decide +kernel
theorem dX5_isHalted_4 : decode cX5_isHalted 4 = .ok (.iconst 0, 1) := by decide +kernel
theorem dX5_isHalted_5 : decode cX5_isHalted 5 = .ok (.iaload, 1) := by decide +kernel
theorem dX5_isHalted_6 : decode cX5_isHalted 6 = .ok (.istore_n 2, 1) := by decide +kernel
theorem dX5_isHalted_7 : decode cX5_isHalted 7 = .ok (.aload_n 1, 1) := by decide +kernel
theorem dX5_isHalted_8 : decode cX5_isHalted 8 = .ok (.iload_n 2, 1) := by decide +kernel
theorem dX5_isHalted_9 : decode cX5_isHalted 9 = .ok (.invokevirtual 45, 3) := by decide +kernel
theorem dX5_isHalted_12 : decode cX5_isHalted 12 = .ok (.ifCond .eq 12, 3) := by decide +kernel
theorem dX5_isHalted_15 : decode cX5_isHalted 15 = .ok (.aload_n 1, 1) := by decide +kernel
theorem dX5_isHalted_16 : decode cX5_isHalted 16 = .ok (.getfield 49, 3) := by decide +kernel
theorem dX5_isHalted_19 : decode cX5_isHalted 19 = .ok (.iload_n 2, 1) := by decide +kernel
theorem dX5_isHalted_20 : decode cX5_isHalted 20 = .ok (.iaload, 1) := by decide +kernel
theorem dX5_isHalted_21 : decode cX5_isHalted 21 = .ok (.ifCond .ne 7, 3) := by decide +kernel
theorem dX5_isHalted_24 : decode cX5_isHalted 24 = .ok (.iconst 1, 1) := by decide +kernel
theorem dX5_isHalted_25 : decode cX5_isHalted 25 = .ok (.goto 4, 3) := by decide +kernel
theorem dX5_isHalted_28 : decode cX5_isHalted 28 = .ok (.iconst 0, 1) := by decide +kernel
theorem dX5_isHalted_29 : decode cX5_isHalted 29 = .ok (.ireturn, 1) := by decide +kernel
theorem dX5_lengthOf_0 : decode cX5_lengthOf 0 = .ok (.aload_n 0, 1) := by decide +kernel
theorem dX5_lengthOf_1 : decode cX5_lengthOf 1 = .ok (.aload_n 1, 1) := by decide +kernel
theorem dX5_lengthOf_2 : decode cX5_lengthOf 2 = .ok (.sipush 20000, 3) := by decide +kernel
theorem dX5_lengthOf_5 : decode cX5_lengthOf 5 = .ok (.invokevirtual 59, 3) := by decide +kernel
theorem dX5_lengthOf_8 : decode cX5_lengthOf 8 = .ok (.aload_n 0, 1) := by decide +kernel
theorem dX5_lengthOf_9 : decode cX5_lengthOf 9 = .ok (.aload_n 1, 1) := by decide +kernel
theorem dX5_lengthOf_10 : decode cX5_lengthOf 10 = .ok (.invokevirtual 41, 3) := by decide +kernel
theorem dX5_lengthOf_13 : decode cX5_lengthOf 13 = .ok (.ifCond .eq 10, 3) := by decide +kernel
theorem dX5_lengthOf_16 : decode cX5_lengthOf 16 = .ok (.aload_n 0, 1) := by decide +kernel
theorem dX5_lengthOf_17 : decode cX5_lengthOf 17 = .ok (.getfield 25, 3) := by decide +kernel
theorem dX5_lengthOf_20 : decode cX5_lengthOf 20 = .ok (.goto 4, 3) := by decide +kernel
theorem dX5_lengthOf_23 : decode cX5_lengthOf 23 = .ok (.iconst (-1), 1) := by decide +kernel
theorem dX5_lengthOf_24 : decode cX5_lengthOf 24 = .ok (.ireturn, 1) := by decide +kernel
theorem dX5_outOf_0 : decode cX5_outOf 0 = .ok (.aload_n 0, 1) := by decide +kernel
theorem dX5_outOf_1 : decode cX5_outOf 1 = .ok (.aload_n 1, 1) := by decide +kernel
theorem dX5_outOf_2 : decode cX5_outOf 2 = .ok (.sipush 20000, 3) := by decide +kernel
theorem dX5_outOf_5 : decode cX5_outOf 5 = .ok (.invokevirtual 59, 3) := by decide +kernel
theorem dX5_outOf_8 : decode cX5_outOf 8 = .ok (.aload_n 0, 1) := by decide +kernel
theorem dX5_outOf_9 : decode cX5_outOf 9 = .ok (.aload_n 1, 1) := by decide +kernel
theorem dX5_outOf_10 : decode cX5_outOf 10 = .ok (.invokevirtual 41, 3) := by decide +kernel
theorem dX5_outOf_13 : decode cX5_outOf 13 = .ok (.ifCond .eq 22, 3) := by decide +kernel
theorem dX5_outOf_16 : decode cX5_outOf 16 = .ok (.iload_n 2, 1) := by decide +kernel
theorem dX5_outOf_17 : decode cX5_outOf 17 = .ok (.iconst 0, 1) := by decide +kernel
theorem dX5_outOf_18 : decode cX5_outOf 18 = .ok (.bipush 9, 2) := by decide +kernel
theorem dX5_outOf_20 : decode cX5_outOf 20 = .ok (.invokestatic 62, 3) := by decide +kernel
theorem dX5_outOf_23 : decode cX5_outOf 23 = .ok (.ifCond .eq 12, 3) := by decide +kernel
theorem dX5_outOf_26 : decode cX5_outOf 26 = .ok (.aload_n 0, 1) := by decide +kernel
theorem dX5_outOf_27 : decode cX5_outOf 27 = .ok (.getfield 15, 3) := by decide +kernel
theorem dX5_outOf_30 : decode cX5_outOf 30 = .ok (.iload_n 2, 1) := by decide +kernel
theorem dX5_outOf_31 : decode cX5_outOf 31 = .ok (.iaload, 1) := by decide +kernel
theorem dX5_outOf_32 : decode cX5_outOf 32 = .ok (.goto 4, 3) := by decide +kernel
theorem dX5_outOf_35 : decode cX5_outOf 35 = .ok (.iconst 0, 1) := by decide +kernel
theorem dX5_outOf_36 : decode cX5_outOf 36 = .ok (.ireturn, 1) := by decide +kernel
theorem dX5_outOfPart_0 : decode cX5_outOfPart 0 = .ok (.aload_n 0, 1) := by decide +kernel
theorem dX5_outOfPart_1 : decode cX5_outOfPart 1 = .ok (.invokevirtual 66, 3) := by decide +kernel
theorem dX5_outOfPart_4 : decode cX5_outOfPart 4 = .ok (.aload_n 0, 1) := by decide +kernel
theorem dX5_outOfPart_5 : decode cX5_outOfPart 5 = .ok (.invokevirtual 29, 3) := by decide +kernel
theorem dX5_outOfPart_8 : decode cX5_outOfPart 8 = .ok (.iconst 0, 1) := by decide +kernel
theorem dX5_outOfPart_9 : decode cX5_outOfPart 9 = .ok (.istore 5, 2) := by decide +kernel
theorem dX5_outOfPart_11 : decode cX5_outOfPart 11 = .ok (.iload 5, 2) := by decide +kernel
theorem dX5_outOfPart_13 : decode cX5_outOfPart 13 = .ok (.bipush 64, 2) := by decide +kernel
theorem dX5_outOfPart_15 : decode cX5_outOfPart 15 = .ok (.if_icmp .ge 27, 3) := by decide +kernel
theorem dX5_outOfPart_18 : decode cX5_outOfPart 18 = .ok (.aload_n 0, 1) := by decide +kernel
theorem dX5_outOfPart_19 : decode cX5_outOfPart 19 = .ok (.getfield 9, 3) := by decide +kernel
theorem dX5_outOfPart_22 : decode cX5_outOfPart 22 = .ok (.bipush 64, 2) := by decide +kernel
theorem dX5_outOfPart_24 : decode cX5_outOfPart 24 = .ok (.iload 5, 2) := by decide +kernel
theorem dX5_outOfPart_26 : decode cX5_outOfPart 26 = .ok (.iadd, 1) := by decide +kernel
theorem dX5_outOfPart_27 : decode cX5_outOfPart 27 = .ok (.aload_n 1, 1) := by decide +kernel
theorem dX5_outOfPart_28 : decode cX5_outOfPart 28 = .ok (.iload_n 2, 1) := by decide +kernel
theorem dX5_outOfPart_29 : decode cX5_outOfPart 29 = .ok (.iload_n 3, 1) := by decide +kernel
theorem dX5_outOfPart_30 : decode cX5_outOfPart 30 = .ok (.iload 5, 2) := by decide +kernel
theorem dX5_outOfPart_32 : decode cX5_outOfPart 32 = .ok (.invokevirtual 69, 3) := by decide +kernel
theorem dX5_outOfPart_35 : decode cX5_outOfPart 35 = .ok (.iastore, 1) := by decide +kernel
theorem dX5_outOfPart_36 : decode cX5_outOfPart 36 = .ok (.iinc 5 1, 3) := by decide +kernel
theorem dX5_outOfPart_39 : decode cX5_outOfPart 39 = .ok (.goto (-28), 3) := by decide +kernel
theorem dX5_outOfPart_42 : decode cX5_outOfPart 42 = .ok (.aload_n 0, 1) := by decide +kernel
theorem dX5_outOfPart_43 : decode cX5_outOfPart 43 = .ok (.aload_n 1, 1) := by decide +kernel
theorem dX5_outOfPart_44 : decode cX5_outOfPart 44 = .ok (.sipush 20000, 3) := by decide +kernel
theorem dX5_outOfPart_47 : decode cX5_outOfPart 47 = .ok (.invokevirtual 37, 3) := by decide +kernel
theorem dX5_outOfPart_50 : decode cX5_outOfPart 50 = .ok (.aload_n 0, 1) := by decide +kernel
theorem dX5_outOfPart_51 : decode cX5_outOfPart 51 = .ok (.aload_n 1, 1) := by decide +kernel
theorem dX5_outOfPart_52 : decode cX5_outOfPart 52 = .ok (.invokevirtual 41, 3) := by decide +kernel
theorem dX5_outOfPart_55 : decode cX5_outOfPart 55 = .ok (.ifCond .eq 24, 3) := by decide +kernel
theorem dX5_outOfPart_58 : decode cX5_outOfPart 58 = .ok (.iload 4, 2) := by decide +kernel
theorem dX5_outOfPart_60 : decode cX5_outOfPart 60 = .ok (.iconst 0, 1) := by decide +kernel
theorem dX5_outOfPart_61 : decode cX5_outOfPart 61 = .ok (.bipush 9, 2) := by decide +kernel
theorem dX5_outOfPart_63 : decode cX5_outOfPart 63 = .ok (.invokestatic 62, 3) := by decide +kernel
theorem dX5_outOfPart_66 : decode cX5_outOfPart 66 = .ok (.ifCond .eq 13, 3) := by decide +kernel
theorem dX5_outOfPart_69 : decode cX5_outOfPart 69 = .ok (.aload_n 0, 1) := by decide +kernel
theorem dX5_outOfPart_70 : decode cX5_outOfPart 70 = .ok (.getfield 15, 3) := by decide +kernel
theorem dX5_outOfPart_73 : decode cX5_outOfPart 73 = .ok (.iload 4, 2) := by decide +kernel
theorem dX5_outOfPart_75 : decode cX5_outOfPart 75 = .ok (.iaload, 1) := by decide +kernel
theorem dX5_outOfPart_76 : decode cX5_outOfPart 76 = .ok (.goto 4, 3) := by decide +kernel
theorem dX5_outOfPart_79 : decode cX5_outOfPart 79 = .ok (.iconst 0, 1) := by decide +kernel
theorem dX5_outOfPart_80 : decode cX5_outOfPart 80 = .ok (.ireturn, 1) := by decide +kernel
theorem dX5_step_0 : decode cX5_step 0 = .ok (.aload_n 0, 1) := by decide +kernel
theorem dX5_step_1 : decode cX5_step 1 = .ok (.getfield 9, 3) := by decide +kernel
theorem dX5_step_4 : decode cX5_step 4 = .ok (.iconst 0, 1) := by decide +kernel
theorem dX5_step_5 : decode cX5_step 5 = .ok (.dup2, 1) := by decide +kernel
theorem dX5_step_6 : decode cX5_step 6 = .ok (.iaload, 1) := by decide +kernel
theorem dX5_step_7 : decode cX5_step 7 = .ok (.iconst 1, 1) := by decide +kernel
theorem dX5_step_8 : decode cX5_step 8 = .ok (.iadd, 1) := by decide +kernel
theorem dX5_step_9 : decode cX5_step 9 = .ok (.iastore, 1) := by decide +kernel
theorem dX5_step_10 : decode cX5_step 10 = .ok (.iload_n 1, 1) := by decide +kernel
theorem dX5_step_11 : decode cX5_step 11 = .ok (.tableswitch 205 1 16 #[77, 85, 103, 121, 143, 205, 205, 205, 205, 205, 205, 205, 205, 167, 177, 194], 77) := by decide +kernel
theorem dX5_step_88 : decode cX5_step 88 = .ok (.aload_n 0, 1) := by decide +kernel
theorem dX5_step_89 : decode cX5_step 89 = .ok (.iload_n 2, 1) := by decide +kernel
theorem dX5_step_90 : decode cX5_step 90 = .ok (.invokevirtual 73, 3) := by decide +kernel
theorem dX5_step_93 : decode cX5_step 93 = .ok (.goto 143, 3) := by decide +kernel
theorem dX5_step_96 : decode cX5_step 96 = .ok (.aload_n 0, 1) := by decide +kernel
theorem dX5_step_97 : decode cX5_step 97 = .ok (.aload_n 0, 1) := by decide +kernel
theorem dX5_step_98 : decode cX5_step 98 = .ok (.getfield 9, 3) := by decide +kernel
theorem dX5_step_101 : decode cX5_step 101 = .ok (.iconst 4, 1) := by decide +kernel
theorem dX5_step_102 : decode cX5_step 102 = .ok (.iload_n 2, 1) := by decide +kernel
theorem dX5_step_103 : decode cX5_step 103 = .ok (.bipush 7, 2) := by decide +kernel
theorem dX5_step_105 : decode cX5_step 105 = .ok (.iand, 1) := by decide +kernel
theorem dX5_step_106 : decode cX5_step 106 = .ok (.iadd, 1) := by decide +kernel
theorem dX5_step_107 : decode cX5_step 107 = .ok (.iaload, 1) := by decide +kernel
theorem dX5_step_108 : decode cX5_step 108 = .ok (.invokevirtual 73, 3) := by decide +kernel
theorem dX5_step_111 : decode cX5_step 111 = .ok (.goto 125, 3) := by decide +kernel
theorem dX5_step_114 : decode cX5_step 114 = .ok (.aload_n 0, 1) := by decide +kernel
theorem dX5_step_115 : decode cX5_step 115 = .ok (.getfield 9, 3) := by decide +kernel
theorem dX5_step_118 : decode cX5_step 118 = .ok (.iconst 4, 1) := by decide +kernel
theorem dX5_step_119 : decode cX5_step 119 = .ok (.iload_n 2, 1) := by decide +kernel
theorem dX5_step_120 : decode cX5_step 120 = .ok (.bipush 7, 2) := by decide +kernel
theorem dX5_step_122 : decode cX5_step 122 = .ok (.iand, 1) := by decide +kernel
theorem dX5_step_123 : decode cX5_step 123 = .ok (.iadd, 1) := by decide +kernel
theorem dX5_step_124 : decode cX5_step 124 = .ok (.aload_n 0, 1) := by decide +kernel
theorem dX5_step_125 : decode cX5_step 125 = .ok (.invokevirtual 77, 3) := by decide +kernel
theorem dX5_step_128 : decode cX5_step 128 = .ok (.iastore, 1) := by decide +kernel
theorem dX5_step_129 : decode cX5_step 129 = .ok (.goto 107, 3) := by decide +kernel
theorem dX5_step_132 : decode cX5_step 132 = .ok (.aload_n 0, 1) := by decide +kernel
theorem dX5_step_133 : decode cX5_step 133 = .ok (.aload_n 0, 1) := by decide +kernel
theorem dX5_step_134 : decode cX5_step 134 = .ok (.getfield 9, 3) := by decide +kernel
theorem dX5_step_137 : decode cX5_step 137 = .ok (.bipush 64, 2) := by decide +kernel
theorem dX5_step_139 : decode cX5_step 139 = .ok (.aload_n 0, 1) := by decide +kernel
theorem dX5_step_140 : decode cX5_step 140 = .ok (.invokevirtual 77, 3) := by decide +kernel
theorem dX5_step_143 : decode cX5_step 143 = .ok (.bipush 63, 2) := by decide +kernel
theorem dX5_step_145 : decode cX5_step 145 = .ok (.iand, 1) := by decide +kernel
theorem dX5_step_146 : decode cX5_step 146 = .ok (.iadd, 1) := by decide +kernel
theorem dX5_step_147 : decode cX5_step 147 = .ok (.iaload, 1) := by decide +kernel
theorem dX5_step_148 : decode cX5_step 148 = .ok (.invokevirtual 73, 3) := by decide +kernel
theorem dX5_step_151 : decode cX5_step 151 = .ok (.goto 85, 3) := by decide +kernel
theorem dX5_step_154 : decode cX5_step 154 = .ok (.aload_n 0, 1) := by decide +kernel
theorem dX5_step_155 : decode cX5_step 155 = .ok (.invokevirtual 77, 3) := by decide +kernel
theorem dX5_step_158 : decode cX5_step 158 = .ok (.istore_n 3, 1) := by decide +kernel
theorem dX5_step_159 : decode cX5_step 159 = .ok (.aload_n 0, 1) := by decide +kernel
theorem dX5_step_160 : decode cX5_step 160 = .ok (.getfield 9, 3) := by decide +kernel
theorem dX5_step_163 : decode cX5_step 163 = .ok (.bipush 64, 2) := by decide +kernel
theorem dX5_step_165 : decode cX5_step 165 = .ok (.aload_n 0, 1) := by decide +kernel
theorem dX5_step_166 : decode cX5_step 166 = .ok (.invokevirtual 77, 3) := by decide +kernel
theorem dX5_step_169 : decode cX5_step 169 = .ok (.bipush 63, 2) := by decide +kernel
theorem dX5_step_171 : decode cX5_step 171 = .ok (.iand, 1) := by decide +kernel
theorem dX5_step_172 : decode cX5_step 172 = .ok (.iadd, 1) := by decide +kernel
theorem dX5_step_173 : decode cX5_step 173 = .ok (.iload_n 3, 1) := by decide +kernel
theorem dX5_step_174 : decode cX5_step 174 = .ok (.iastore, 1) := by decide +kernel
theorem dX5_step_175 : decode cX5_step 175 = .ok (.goto 61, 3) := by decide +kernel
theorem dX5_step_178 : decode cX5_step 178 = .ok (.aload_n 0, 1) := by decide +kernel
theorem dX5_step_179 : decode cX5_step 179 = .ok (.getfield 9, 3) := by decide +kernel
theorem dX5_step_182 : decode cX5_step 182 = .ok (.iconst 0, 1) := by decide +kernel
theorem dX5_step_183 : decode cX5_step 183 = .ok (.iload_n 2, 1) := by decide +kernel
theorem dX5_step_184 : decode cX5_step 184 = .ok (.iastore, 1) := by decide +kernel
theorem dX5_step_185 : decode cX5_step 185 = .ok (.goto 51, 3) := by decide +kernel
theorem dX5_step_188 : decode cX5_step 188 = .ok (.aload_n 0, 1) := by decide +kernel
theorem dX5_step_189 : decode cX5_step 189 = .ok (.invokevirtual 77, 3) := by decide +kernel
theorem dX5_step_192 : decode cX5_step 192 = .ok (.ifCond .ne 44, 3) := by decide +kernel
theorem dX5_step_195 : decode cX5_step 195 = .ok (.aload_n 0, 1) := by decide +kernel
theorem dX5_step_196 : decode cX5_step 196 = .ok (.getfield 9, 3) := by decide +kernel
theorem dX5_step_199 : decode cX5_step 199 = .ok (.iconst 0, 1) := by decide +kernel
theorem dX5_step_200 : decode cX5_step 200 = .ok (.iload_n 2, 1) := by decide +kernel
theorem dX5_step_201 : decode cX5_step 201 = .ok (.iastore, 1) := by decide +kernel
theorem dX5_step_202 : decode cX5_step 202 = .ok (.goto 34, 3) := by decide +kernel
theorem dX5_step_205 : decode cX5_step 205 = .ok (.aload_n 0, 1) := by decide +kernel
theorem dX5_step_206 : decode cX5_step 206 = .ok (.aload_n 0, 1) := by decide +kernel
theorem dX5_step_207 : decode cX5_step 207 = .ok (.invokevirtual 77, 3) := by decide +kernel
theorem dX5_step_210 : decode cX5_step 210 = .ok (.invokevirtual 81, 3) := by decide +kernel
theorem dX5_step_213 : decode cX5_step 213 = .ok (.goto 23, 3) := by decide +kernel
theorem dX5_step_216 : decode cX5_step 216 = .ok (.aload_n 0, 1) := by decide +kernel
theorem dX5_step_217 : decode cX5_step 217 = .ok (.invokevirtual 77, 3) := by decide +kernel
theorem dX5_step_220 : decode cX5_step 220 = .ok (.istore 4, 2) := by decide +kernel
theorem dX5_step_222 : decode cX5_step 222 = .ok (.aload_n 0, 1) := by decide +kernel
theorem dX5_step_223 : decode cX5_step 223 = .ok (.iload_n 1, 1) := by decide +kernel
theorem dX5_step_224 : decode cX5_step 224 = .ok (.aload_n 0, 1) := by decide +kernel
theorem dX5_step_225 : decode cX5_step 225 = .ok (.invokevirtual 77, 3) := by decide +kernel
theorem dX5_step_228 : decode cX5_step 228 = .ok (.iload 4, 2) := by decide +kernel
theorem dX5_step_230 : decode cX5_step 230 = .ok (.invokestatic 84, 3) := by decide +kernel
theorem dX5_step_233 : decode cX5_step 233 = .ok (.invokevirtual 73, 3) := by decide +kernel
theorem dX5_step_236 : decode cX5_step 236 = .ok (.return_, 1) := by decide +kernel
theorem dX5_push_0 : decode cX5_push 0 = .ok (.aload_n 0, 1) := by decide +kernel
theorem dX5_push_1 : decode cX5_push 1 = .ok (.getfield 9, 3) := by decide +kernel
theorem dX5_push_4 : decode cX5_push 4 = .ok (.iconst 1, 1) := by decide +kernel
theorem dX5_push_5 : decode cX5_push 5 = .ok (.iaload, 1) := by decide +kernel
theorem dX5_push_6 : decode cX5_push 6 = .ok (.istore_n 2, 1) := by decide +kernel
theorem dX5_push_7 : decode cX5_push 7 = .ok (.iload_n 2, 1) := by decide +kernel
theorem dX5_push_8 : decode cX5_push 8 = .ok (.ifCond .lt 28, 3) := by decide +kernel
theorem dX5_push_11 : decode cX5_push 11 = .ok (.iload_n 2, 1) := by decide +kernel
theorem dX5_push_12 : decode cX5_push 12 = .ok (.bipush 32, 2) := by decide +kernel
theorem dX5_push_14 : decode cX5_push 14 = .ok (.if_icmp .ge 22, 3) := by decide +kernel
theorem dX5_push_17 : decode cX5_push 17 = .ok (.aload_n 0, 1) := by decide +kernel
theorem dX5_push_18 : decode cX5_push 18 = .ok (.getfield 9, 3) := by decide +kernel
theorem dX5_push_21 : decode cX5_push 21 = .ok (.bipush 32, 2) := by decide +kernel
theorem dX5_push_23 : decode cX5_push 23 = .ok (.iload_n 2, 1) := by decide +kernel
theorem dX5_push_24 : decode cX5_push 24 = .ok (.iadd, 1) := by decide +kernel
theorem dX5_push_25 : decode cX5_push 25 = .ok (.iload_n 1, 1) := by decide +kernel
theorem dX5_push_26 : decode cX5_push 26 = .ok (.iastore, 1) := by decide +kernel
theorem dX5_push_27 : decode cX5_push 27 = .ok (.aload_n 0, 1) := by decide +kernel
theorem dX5_push_28 : decode cX5_push 28 = .ok (.getfield 9, 3) := by decide +kernel
theorem dX5_push_31 : decode cX5_push 31 = .ok (.iconst 1, 1) := by decide +kernel
theorem dX5_push_32 : decode cX5_push 32 = .ok (.iload_n 2, 1) := by decide +kernel
theorem dX5_push_33 : decode cX5_push 33 = .ok (.iconst 1, 1) := by decide +kernel
theorem dX5_push_34 : decode cX5_push 34 = .ok (.iadd, 1) := by decide +kernel
theorem dX5_push_35 : decode cX5_push 35 = .ok (.iastore, 1) := by decide +kernel
theorem dX5_push_36 : decode cX5_push 36 = .ok (.return_, 1) := by decide +kernel
theorem dX5_pop_0 : decode cX5_pop 0 = .ok (.aload_n 0, 1) := by decide +kernel
theorem dX5_pop_1 : decode cX5_pop 1 = .ok (.getfield 9, 3) := by decide +kernel
theorem dX5_pop_4 : decode cX5_pop 4 = .ok (.iconst 1, 1) := by decide +kernel
theorem dX5_pop_5 : decode cX5_pop 5 = .ok (.iaload, 1) := by decide +kernel
theorem dX5_pop_6 : decode cX5_pop 6 = .ok (.istore_n 1, 1) := by decide +kernel
theorem dX5_pop_7 : decode cX5_pop 7 = .ok (.iload_n 1, 1) := by decide +kernel
theorem dX5_pop_8 : decode cX5_pop 8 = .ok (.ifCond .le 9, 3) := by decide +kernel
theorem dX5_pop_11 : decode cX5_pop 11 = .ok (.iload_n 1, 1) := by decide +kernel
theorem dX5_pop_12 : decode cX5_pop 12 = .ok (.bipush 32, 2) := by decide +kernel
theorem dX5_pop_14 : decode cX5_pop 14 = .ok (.if_icmp .le 5, 3) := by decide +kernel
theorem dX5_pop_17 : decode cX5_pop 17 = .ok (.iconst 0, 1) := by decide +kernel
theorem dX5_pop_18 : decode cX5_pop 18 = .ok (.ireturn, 1) := by decide +kernel
theorem dX5_pop_19 : decode cX5_pop 19 = .ok (.aload_n 0, 1) := by decide +kernel
theorem dX5_pop_20 : decode cX5_pop 20 = .ok (.getfield 9, 3) := by decide +kernel
theorem dX5_pop_23 : decode cX5_pop 23 = .ok (.bipush 32, 2) := by decide +kernel
theorem dX5_pop_25 : decode cX5_pop 25 = .ok (.iload_n 1, 1) := by decide +kernel
theorem dX5_pop_26 : decode cX5_pop 26 = .ok (.iadd, 1) := by decide +kernel
theorem dX5_pop_27 : decode cX5_pop 27 = .ok (.iconst 1, 1) := by decide +kernel
theorem dX5_pop_28 : decode cX5_pop 28 = .ok (.isub, 1) := by decide +kernel
theorem dX5_pop_29 : decode cX5_pop 29 = .ok (.iaload, 1) := by decide +kernel
theorem dX5_pop_30 : decode cX5_pop 30 = .ok (.istore_n 2, 1) := by decide +kernel
theorem dX5_pop_31 : decode cX5_pop 31 = .ok (.aload_n 0, 1) := by decide +kernel
theorem dX5_pop_32 : decode cX5_pop 32 = .ok (.getfield 9, 3) := by decide +kernel
theorem dX5_pop_35 : decode cX5_pop 35 = .ok (.bipush 32, 2) := by decide +kernel
theorem dX5_pop_37 : decode cX5_pop 37 = .ok (.iload_n 1, 1) := by decide +kernel
theorem dX5_pop_38 : decode cX5_pop 38 = .ok (.iadd, 1) := by decide +kernel
theorem dX5_pop_39 : decode cX5_pop 39 = .ok (.iconst 1, 1) := by decide +kernel
theorem dX5_pop_40 : decode cX5_pop 40 = .ok (.isub, 1) := by decide +kernel
theorem dX5_pop_41 : decode cX5_pop 41 = .ok (.iconst 0, 1) := by decide +kernel
theorem dX5_pop_42 : decode cX5_pop 42 = .ok (.iastore, 1) := by decide +kernel
theorem dX5_pop_43 : decode cX5_pop 43 = .ok (.aload_n 0, 1) := by decide +kernel
theorem dX5_pop_44 : decode cX5_pop 44 = .ok (.getfield 9, 3) := by decide +kernel
theorem dX5_pop_47 : decode cX5_pop 47 = .ok (.iconst 1, 1) := by decide +kernel
theorem dX5_pop_48 : decode cX5_pop 48 = .ok (.iload_n 1, 1) := by decide +kernel
theorem dX5_pop_49 : decode cX5_pop 49 = .ok (.iconst 1, 1) := by decide +kernel
theorem dX5_pop_50 : decode cX5_pop 50 = .ok (.isub, 1) := by decide +kernel
theorem dX5_pop_51 : decode cX5_pop 51 = .ok (.iastore, 1) := by decide +kernel
theorem dX5_pop_52 : decode cX5_pop 52 = .ok (.iload_n 2, 1) := by decide +kernel
theorem dX5_pop_53 : decode cX5_pop 53 = .ok (.ireturn, 1) := by decide +kernel
theorem dX5_putOut_0 : decode cX5_putOut 0 = .ok (.aload_n 0, 1) := by decide +kernel
theorem dX5_putOut_1 : decode cX5_putOut 1 = .ok (.getfield 9, 3) := by decide +kernel
theorem dX5_putOut_4 : decode cX5_putOut 4 = .ok (.iconst 2, 1) := by decide +kernel
theorem dX5_putOut_5 : decode cX5_putOut 5 = .ok (.iaload, 1) := by decide +kernel
theorem dX5_putOut_6 : decode cX5_putOut 6 = .ok (.istore_n 2, 1) := by decide +kernel
theorem dX5_putOut_7 : decode cX5_putOut 7 = .ok (.iload_n 2, 1) := by decide +kernel
theorem dX5_putOut_8 : decode cX5_putOut 8 = .ok (.ifCond .lt 16, 3) := by decide +kernel
theorem dX5_putOut_11 : decode cX5_putOut 11 = .ok (.iload_n 2, 1) := by decide +kernel
theorem dX5_putOut_12 : decode cX5_putOut 12 = .ok (.bipush 10, 2) := by decide +kernel
theorem dX5_putOut_14 : decode cX5_putOut 14 = .ok (.if_icmp .ge 10, 3) := by decide +kernel
theorem dX5_putOut_17 : decode cX5_putOut 17 = .ok (.aload_n 0, 1) := by decide +kernel
theorem dX5_putOut_18 : decode cX5_putOut 18 = .ok (.getfield 15, 3) := by decide +kernel
theorem dX5_putOut_21 : decode cX5_putOut 21 = .ok (.iload_n 2, 1) := by decide +kernel
theorem dX5_putOut_22 : decode cX5_putOut 22 = .ok (.iload_n 1, 1) := by decide +kernel
theorem dX5_putOut_23 : decode cX5_putOut 23 = .ok (.iastore, 1) := by decide +kernel
theorem dX5_putOut_24 : decode cX5_putOut 24 = .ok (.aload_n 0, 1) := by decide +kernel
theorem dX5_putOut_25 : decode cX5_putOut 25 = .ok (.getfield 9, 3) := by decide +kernel
theorem dX5_putOut_28 : decode cX5_putOut 28 = .ok (.iconst 2, 1) := by decide +kernel
theorem dX5_putOut_29 : decode cX5_putOut 29 = .ok (.iload_n 2, 1) := by decide +kernel
theorem dX5_putOut_30 : decode cX5_putOut 30 = .ok (.iconst 1, 1) := by decide +kernel
theorem dX5_putOut_31 : decode cX5_putOut 31 = .ok (.iadd, 1) := by decide +kernel
theorem dX5_putOut_32 : decode cX5_putOut 32 = .ok (.iastore, 1) := by decide +kernel
theorem dX5_putOut_33 : decode cX5_putOut 33 = .ok (.aload_n 0, 1) := by decide +kernel
theorem dX5_putOut_34 : decode cX5_putOut 34 = .ok (.getfield 9, 3) := by decide +kernel
theorem dX5_putOut_37 : decode cX5_putOut 37 = .ok (.iconst 3, 1) := by decide +kernel
theorem dX5_putOut_38 : decode cX5_putOut 38 = .ok (.bipush 31, 2) := by decide +kernel
theorem dX5_putOut_40 : decode cX5_putOut 40 = .ok (.aload_n 0, 1) := by decide +kernel
theorem dX5_putOut_41 : decode cX5_putOut 41 = .ok (.getfield 9, 3) := by decide +kernel
theorem dX5_putOut_44 : decode cX5_putOut 44 = .ok (.iconst 3, 1) := by decide +kernel
theorem dX5_putOut_45 : decode cX5_putOut 45 = .ok (.iaload, 1) := by decide +kernel
theorem dX5_putOut_46 : decode cX5_putOut 46 = .ok (.imul, 1) := by decide +kernel
theorem dX5_putOut_47 : decode cX5_putOut 47 = .ok (.iload_n 1, 1) := by decide +kernel
theorem dX5_putOut_48 : decode cX5_putOut 48 = .ok (.iadd, 1) := by decide +kernel
theorem dX5_putOut_49 : decode cX5_putOut 49 = .ok (.iastore, 1) := by decide +kernel
theorem dX5_putOut_50 : decode cX5_putOut 50 = .ok (.return_, 1) := by decide +kernel
theorem dX5_worked_0 : decode cX5_worked 0 = .ok (.iload_n 0, 1) := by decide +kernel
theorem dX5_worked_1 : decode cX5_worked 1 = .ok (.tableswitch 116 6 13 #[47, 51, 55, 59, 71, 83, 94, 105], 47) := by decide +kernel
theorem dX5_worked_48 : decode cX5_worked 48 = .ok (.iload_n 1, 1) := by decide +kernel
theorem dX5_worked_49 : decode cX5_worked 49 = .ok (.iload_n 2, 1) := by decide +kernel
theorem dX5_worked_50 : decode cX5_worked 50 = .ok (.iadd, 1) := by decide +kernel
theorem dX5_worked_51 : decode cX5_worked 51 = .ok (.ireturn, 1) := by decide +kernel
theorem dX5_worked_52 : decode cX5_worked 52 = .ok (.iload_n 1, 1) := by decide +kernel
theorem dX5_worked_53 : decode cX5_worked 53 = .ok (.iload_n 2, 1) := by decide +kernel
theorem dX5_worked_54 : decode cX5_worked 54 = .ok (.isub, 1) := by decide +kernel
theorem dX5_worked_55 : decode cX5_worked 55 = .ok (.ireturn, 1) := by decide +kernel
theorem dX5_worked_56 : decode cX5_worked 56 = .ok (.iload_n 1, 1) := by decide +kernel
theorem dX5_worked_57 : decode cX5_worked 57 = .ok (.iload_n 2, 1) := by decide +kernel
theorem dX5_worked_58 : decode cX5_worked 58 = .ok (.imul, 1) := by decide +kernel
theorem dX5_worked_59 : decode cX5_worked 59 = .ok (.ireturn, 1) := by decide +kernel
theorem dX5_worked_60 : decode cX5_worked 60 = .ok (.iload_n 2, 1) := by decide +kernel
theorem dX5_worked_61 : decode cX5_worked 61 = .ok (.ifCond .ne 7, 3) := by decide +kernel
theorem dX5_worked_64 : decode cX5_worked 64 = .ok (.iconst 0, 1) := by decide +kernel
theorem dX5_worked_65 : decode cX5_worked 65 = .ok (.goto 6, 3) := by decide +kernel
theorem dX5_worked_68 : decode cX5_worked 68 = .ok (.iload_n 1, 1) := by decide +kernel
theorem dX5_worked_69 : decode cX5_worked 69 = .ok (.iload_n 2, 1) := by decide +kernel
theorem dX5_worked_70 : decode cX5_worked 70 = .ok (.idiv, 1) := by decide +kernel
theorem dX5_worked_71 : decode cX5_worked 71 = .ok (.ireturn, 1) := by decide +kernel
theorem dX5_worked_72 : decode cX5_worked 72 = .ok (.iload_n 2, 1) := by decide +kernel
theorem dX5_worked_73 : decode cX5_worked 73 = .ok (.ifCond .ne 7, 3) := by decide +kernel
theorem dX5_worked_76 : decode cX5_worked 76 = .ok (.iconst 0, 1) := by decide +kernel
theorem dX5_worked_77 : decode cX5_worked 77 = .ok (.goto 6, 3) := by decide +kernel
theorem dX5_worked_80 : decode cX5_worked 80 = .ok (.iload_n 1, 1) := by decide +kernel
theorem dX5_worked_81 : decode cX5_worked 81 = .ok (.iload_n 2, 1) := by decide +kernel
theorem dX5_worked_82 : decode cX5_worked 82 = .ok (.irem, 1) := by decide +kernel
theorem dX5_worked_83 : decode cX5_worked 83 = .ok (.ireturn, 1) := by decide +kernel
theorem dX5_worked_84 : decode cX5_worked 84 = .ok (.iload_n 1, 1) := by decide +kernel
theorem dX5_worked_85 : decode cX5_worked 85 = .ok (.iload_n 2, 1) := by decide +kernel
theorem dX5_worked_86 : decode cX5_worked 86 = .ok (.if_icmp .ge 7, 3) := by decide +kernel
theorem dX5_worked_89 : decode cX5_worked 89 = .ok (.iconst 1, 1) := by decide +kernel
theorem dX5_worked_90 : decode cX5_worked 90 = .ok (.goto 4, 3) := by decide +kernel
theorem dX5_worked_93 : decode cX5_worked 93 = .ok (.iconst 0, 1) := by decide +kernel
theorem dX5_worked_94 : decode cX5_worked 94 = .ok (.ireturn, 1) := by decide +kernel
theorem dX5_worked_95 : decode cX5_worked 95 = .ok (.iload_n 1, 1) := by decide +kernel
theorem dX5_worked_96 : decode cX5_worked 96 = .ok (.iload_n 2, 1) := by decide +kernel
theorem dX5_worked_97 : decode cX5_worked 97 = .ok (.if_icmp .le 7, 3) := by decide +kernel
theorem dX5_worked_100 : decode cX5_worked 100 = .ok (.iconst 1, 1) := by decide +kernel
theorem dX5_worked_101 : decode cX5_worked 101 = .ok (.goto 4, 3) := by decide +kernel
theorem dX5_worked_104 : decode cX5_worked 104 = .ok (.iconst 0, 1) := by decide +kernel
theorem dX5_worked_105 : decode cX5_worked 105 = .ok (.ireturn, 1) := by decide +kernel
theorem dX5_worked_106 : decode cX5_worked 106 = .ok (.iload_n 1, 1) := by decide +kernel
theorem dX5_worked_107 : decode cX5_worked 107 = .ok (.iload_n 2, 1) := by decide +kernel
theorem dX5_worked_108 : decode cX5_worked 108 = .ok (.if_icmp .ne 7, 3) := by decide +kernel
theorem dX5_worked_111 : decode cX5_worked 111 = .ok (.iconst 1, 1) := by decide +kernel
theorem dX5_worked_112 : decode cX5_worked 112 = .ok (.goto 4, 3) := by decide +kernel
theorem dX5_worked_115 : decode cX5_worked 115 = .ok (.iconst 0, 1) := by decide +kernel
theorem dX5_worked_116 : decode cX5_worked 116 = .ok (.ireturn, 1) := by decide +kernel
theorem dX5_worked_117 : decode cX5_worked 117 = .ok (.iconst 0, 1) := by decide +kernel
theorem dX5_worked_118 : decode cX5_worked 118 = .ok (.ireturn, 1) := by decide +kernel
theorem dX5_sumOf_0 : decode cX5_sumOf 0 = .ok (.aload_n 0, 1) := by decide +kernel
theorem dX5_sumOf_1 : decode cX5_sumOf 1 = .ok (.aload_n 1, 1) := by decide +kernel
theorem dX5_sumOf_2 : decode cX5_sumOf 2 = .ok (.iload_n 2, 1) := by decide +kernel
theorem dX5_sumOf_3 : decode cX5_sumOf 3 = .ok (.invokevirtual 59, 3) := by decide +kernel
theorem dX5_sumOf_6 : decode cX5_sumOf 6 = .ok (.iconst 0, 1) := by decide +kernel
theorem dX5_sumOf_7 : decode cX5_sumOf 7 = .ok (.istore_n 3, 1) := by decide +kernel
theorem dX5_sumOf_8 : decode cX5_sumOf 8 = .ok (.iload_n 3, 1) := by decide +kernel
theorem dX5_sumOf_9 : decode cX5_sumOf 9 = .ok (.bipush 16, 2) := by decide +kernel
theorem dX5_sumOf_11 : decode cX5_sumOf 11 = .ok (.if_icmp .ge 23, 3) := by decide +kernel
theorem dX5_sumOf_14 : decode cX5_sumOf 14 = .ok (.aload_n 0, 1) := by decide +kernel
theorem dX5_sumOf_15 : decode cX5_sumOf 15 = .ok (.getfield 18, 3) := by decide +kernel
theorem dX5_sumOf_18 : decode cX5_sumOf 18 = .ok (.bipush 16, 2) := by decide +kernel
theorem dX5_sumOf_20 : decode cX5_sumOf 20 = .ok (.iload_n 3, 1) := by decide +kernel
theorem dX5_sumOf_21 : decode cX5_sumOf 21 = .ok (.iadd, 1) := by decide +kernel
theorem dX5_sumOf_22 : decode cX5_sumOf 22 = .ok (.aload_n 0, 1) := by decide +kernel
theorem dX5_sumOf_23 : decode cX5_sumOf 23 = .ok (.iload_n 3, 1) := by decide +kernel
theorem dX5_sumOf_24 : decode cX5_sumOf 24 = .ok (.invokevirtual 87, 3) := by decide +kernel
theorem dX5_sumOf_27 : decode cX5_sumOf 27 = .ok (.iastore, 1) := by decide +kernel
theorem dX5_sumOf_28 : decode cX5_sumOf 28 = .ok (.iinc 3 1, 3) := by decide +kernel
theorem dX5_sumOf_31 : decode cX5_sumOf 31 = .ok (.goto (-23), 3) := by decide +kernel
theorem dX5_sumOf_34 : decode cX5_sumOf 34 = .ok (.bipush 15, 2) := by decide +kernel
theorem dX5_sumOf_36 : decode cX5_sumOf 36 = .ok (.istore_n 3, 1) := by decide +kernel
theorem dX5_sumOf_37 : decode cX5_sumOf 37 = .ok (.iload_n 3, 1) := by decide +kernel
theorem dX5_sumOf_38 : decode cX5_sumOf 38 = .ok (.ifCond .le 36, 3) := by decide +kernel
theorem dX5_sumOf_41 : decode cX5_sumOf 41 = .ok (.aload_n 0, 1) := by decide +kernel
theorem dX5_sumOf_42 : decode cX5_sumOf 42 = .ok (.getfield 18, 3) := by decide +kernel
theorem dX5_sumOf_45 : decode cX5_sumOf 45 = .ok (.iload_n 3, 1) := by decide +kernel
theorem dX5_sumOf_46 : decode cX5_sumOf 46 = .ok (.aload_n 0, 1) := by decide +kernel
theorem dX5_sumOf_47 : decode cX5_sumOf 47 = .ok (.getfield 18, 3) := by decide +kernel
theorem dX5_sumOf_50 : decode cX5_sumOf 50 = .ok (.iconst 2, 1) := by decide +kernel
theorem dX5_sumOf_51 : decode cX5_sumOf 51 = .ok (.iload_n 3, 1) := by decide +kernel
theorem dX5_sumOf_52 : decode cX5_sumOf 52 = .ok (.imul, 1) := by decide +kernel
theorem dX5_sumOf_53 : decode cX5_sumOf 53 = .ok (.iaload, 1) := by decide +kernel
theorem dX5_sumOf_54 : decode cX5_sumOf 54 = .ok (.aload_n 0, 1) := by decide +kernel
theorem dX5_sumOf_55 : decode cX5_sumOf 55 = .ok (.getfield 18, 3) := by decide +kernel
theorem dX5_sumOf_58 : decode cX5_sumOf 58 = .ok (.iconst 2, 1) := by decide +kernel
theorem dX5_sumOf_59 : decode cX5_sumOf 59 = .ok (.iload_n 3, 1) := by decide +kernel
theorem dX5_sumOf_60 : decode cX5_sumOf 60 = .ok (.imul, 1) := by decide +kernel
theorem dX5_sumOf_61 : decode cX5_sumOf 61 = .ok (.iconst 1, 1) := by decide +kernel
theorem dX5_sumOf_62 : decode cX5_sumOf 62 = .ok (.iadd, 1) := by decide +kernel
theorem dX5_sumOf_63 : decode cX5_sumOf 63 = .ok (.iaload, 1) := by decide +kernel
theorem dX5_sumOf_64 : decode cX5_sumOf 64 = .ok (.invokestatic 91, 3) := by decide +kernel
theorem dX5_sumOf_67 : decode cX5_sumOf 67 = .ok (.iastore, 1) := by decide +kernel
theorem dX5_sumOf_68 : decode cX5_sumOf 68 = .ok (.iinc 3 (-1), 3) := by decide +kernel
theorem dX5_sumOf_71 : decode cX5_sumOf 71 = .ok (.goto (-34), 3) := by decide +kernel
theorem dX5_sumOf_74 : decode cX5_sumOf 74 = .ok (.aload_n 0, 1) := by decide +kernel
theorem dX5_sumOf_75 : decode cX5_sumOf 75 = .ok (.getfield 18, 3) := by decide +kernel
theorem dX5_sumOf_78 : decode cX5_sumOf 78 = .ok (.iconst 1, 1) := by decide +kernel
theorem dX5_sumOf_79 : decode cX5_sumOf 79 = .ok (.iaload, 1) := by decide +kernel
theorem dX5_sumOf_80 : decode cX5_sumOf 80 = .ok (.ireturn, 1) := by decide +kernel
theorem dX5_pageSum_0 : decode cX5_pageSum 0 = .ok (.bipush 17, 2) := by decide +kernel
theorem dX5_pageSum_2 : decode cX5_pageSum 2 = .ok (.istore_n 2, 1) := by decide +kernel
theorem dX5_pageSum_3 : decode cX5_pageSum 3 = .ok (.iload_n 1, 1) := by decide +kernel
theorem dX5_pageSum_4 : decode cX5_pageSum 4 = .ok (.bipush 8, 2) := by decide +kernel
theorem dX5_pageSum_6 : decode cX5_pageSum 6 = .ok (.imul, 1) := by decide +kernel
theorem dX5_pageSum_7 : decode cX5_pageSum 7 = .ok (.istore_n 3, 1) := by decide +kernel
theorem dX5_pageSum_8 : decode cX5_pageSum 8 = .ok (.iload_n 3, 1) := by decide +kernel
theorem dX5_pageSum_9 : decode cX5_pageSum 9 = .ok (.iload_n 1, 1) := by decide +kernel
theorem dX5_pageSum_10 : decode cX5_pageSum 10 = .ok (.iconst 1, 1) := by decide +kernel
theorem dX5_pageSum_11 : decode cX5_pageSum 11 = .ok (.iadd, 1) := by decide +kernel
theorem dX5_pageSum_12 : decode cX5_pageSum 12 = .ok (.bipush 8, 2) := by decide +kernel
theorem dX5_pageSum_14 : decode cX5_pageSum 14 = .ok (.imul, 1) := by decide +kernel
theorem dX5_pageSum_15 : decode cX5_pageSum 15 = .ok (.if_icmp .ge 32, 3) := by decide +kernel
theorem dX5_pageSum_18 : decode cX5_pageSum 18 = .ok (.iload_n 3, 1) := by decide +kernel
theorem dX5_pageSum_19 : decode cX5_pageSum 19 = .ok (.ifCond .lt 28, 3) := by decide +kernel
theorem dX5_pageSum_22 : decode cX5_pageSum 22 = .ok (.iload_n 3, 1) := by decide +kernel
theorem dX5_pageSum_23 : decode cX5_pageSum 23 = .ok (.sipush 128, 3) := by decide +kernel
theorem dX5_pageSum_26 : decode cX5_pageSum 26 = .ok (.if_icmp .ge 21, 3) := by decide +kernel
theorem dX5_pageSum_29 : decode cX5_pageSum 29 = .ok (.bipush 31, 2) := by decide +kernel
theorem dX5_pageSum_31 : decode cX5_pageSum 31 = .ok (.iload_n 2, 1) := by decide +kernel
theorem dX5_pageSum_32 : decode cX5_pageSum 32 = .ok (.imul, 1) := by decide +kernel
theorem dX5_pageSum_33 : decode cX5_pageSum 33 = .ok (.aload_n 0, 1) := by decide +kernel
theorem dX5_pageSum_34 : decode cX5_pageSum 34 = .ok (.getfield 9, 3) := by decide +kernel
theorem dX5_pageSum_37 : decode cX5_pageSum 37 = .ok (.iload_n 3, 1) := by decide +kernel
theorem dX5_pageSum_38 : decode cX5_pageSum 38 = .ok (.iaload, 1) := by decide +kernel
theorem dX5_pageSum_39 : decode cX5_pageSum 39 = .ok (.iadd, 1) := by decide +kernel
theorem dX5_pageSum_40 : decode cX5_pageSum 40 = .ok (.istore_n 2, 1) := by decide +kernel
theorem dX5_pageSum_41 : decode cX5_pageSum 41 = .ok (.iinc 3 1, 3) := by decide +kernel
theorem dX5_pageSum_44 : decode cX5_pageSum 44 = .ok (.goto (-36), 3) := by decide +kernel
theorem dX5_pageSum_47 : decode cX5_pageSum 47 = .ok (.iload_n 2, 1) := by decide +kernel
theorem dX5_pageSum_48 : decode cX5_pageSum 48 = .ok (.ireturn, 1) := by decide +kernel
theorem dX5_besideOf_0 : decode cX5_besideOf 0 = .ok (.bipush 16, 2) := by decide +kernel
theorem dX5_besideOf_2 : decode cX5_besideOf 2 = .ok (.iload_n 1, 1) := by decide +kernel
theorem dX5_besideOf_3 : decode cX5_besideOf 3 = .ok (.bipush 15, 2) := by decide +kernel
theorem dX5_besideOf_5 : decode cX5_besideOf 5 = .ok (.iand, 1) := by decide +kernel
theorem dX5_besideOf_6 : decode cX5_besideOf 6 = .ok (.iadd, 1) := by decide +kernel
theorem dX5_besideOf_7 : decode cX5_besideOf 7 = .ok (.iload_n 2, 1) := by decide +kernel
theorem dX5_besideOf_8 : decode cX5_besideOf 8 = .ok (.iconst 3, 1) := by decide +kernel
theorem dX5_besideOf_9 : decode cX5_besideOf 9 = .ok (.iand, 1) := by decide +kernel
theorem dX5_besideOf_10 : decode cX5_besideOf 10 = .ok (.ishr, 1) := by decide +kernel
theorem dX5_besideOf_11 : decode cX5_besideOf 11 = .ok (.iconst 1, 1) := by decide +kernel
theorem dX5_besideOf_12 : decode cX5_besideOf 12 = .ok (.ixor, 1) := by decide +kernel
theorem dX5_besideOf_13 : decode cX5_besideOf 13 = .ok (.istore_n 3, 1) := by decide +kernel
theorem dX5_besideOf_14 : decode cX5_besideOf 14 = .ok (.aload_n 0, 1) := by decide +kernel
theorem dX5_besideOf_15 : decode cX5_besideOf 15 = .ok (.getfield 18, 3) := by decide +kernel
theorem dX5_besideOf_18 : decode cX5_besideOf 18 = .ok (.iload_n 3, 1) := by decide +kernel
theorem dX5_besideOf_19 : decode cX5_besideOf 19 = .ok (.iaload, 1) := by decide +kernel
theorem dX5_besideOf_20 : decode cX5_besideOf 20 = .ok (.ireturn, 1) := by decide +kernel
theorem dX5_climb_0 : decode cX5_climb 0 = .ok (.iload_n 2, 1) := by decide +kernel
theorem dX5_climb_1 : decode cX5_climb 1 = .ok (.istore_n 3, 1) := by decide +kernel
theorem dX5_climb_2 : decode cX5_climb 2 = .ok (.iconst 0, 1) := by decide +kernel
theorem dX5_climb_3 : decode cX5_climb 3 = .ok (.istore 4, 2) := by decide +kernel
theorem dX5_climb_5 : decode cX5_climb 5 = .ok (.iload 4, 2) := by decide +kernel
theorem dX5_climb_7 : decode cX5_climb 7 = .ok (.iconst 4, 1) := by decide +kernel
theorem dX5_climb_8 : decode cX5_climb 8 = .ok (.if_icmp .ge 55, 3) := by decide +kernel
theorem dX5_climb_11 : decode cX5_climb 11 = .ok (.aload_n 0, 1) := by decide +kernel
theorem dX5_climb_12 : decode cX5_climb 12 = .ok (.iload_n 1, 1) := by decide +kernel
theorem dX5_climb_13 : decode cX5_climb 13 = .ok (.iload 4, 2) := by decide +kernel
theorem dX5_climb_15 : decode cX5_climb 15 = .ok (.invokevirtual 95, 3) := by decide +kernel
theorem dX5_climb_18 : decode cX5_climb 18 = .ok (.istore 5, 2) := by decide +kernel
theorem dX5_climb_20 : decode cX5_climb 20 = .ok (.iload_n 1, 1) := by decide +kernel
theorem dX5_climb_21 : decode cX5_climb 21 = .ok (.iload 4, 2) := by decide +kernel
theorem dX5_climb_23 : decode cX5_climb 23 = .ok (.ishr, 1) := by decide +kernel
theorem dX5_climb_24 : decode cX5_climb 24 = .ok (.iconst 1, 1) := by decide +kernel
theorem dX5_climb_25 : decode cX5_climb 25 = .ok (.iand, 1) := by decide +kernel
theorem dX5_climb_26 : decode cX5_climb 26 = .ok (.ifCond .ne 7, 3) := by decide +kernel
theorem dX5_climb_29 : decode cX5_climb 29 = .ok (.iconst 1, 1) := by decide +kernel
theorem dX5_climb_30 : decode cX5_climb 30 = .ok (.goto 4, 3) := by decide +kernel
theorem dX5_climb_33 : decode cX5_climb 33 = .ok (.iconst 0, 1) := by decide +kernel
theorem dX5_climb_34 : decode cX5_climb 34 = .ok (.istore 6, 2) := by decide +kernel
theorem dX5_climb_36 : decode cX5_climb 36 = .ok (.iload 6, 2) := by decide +kernel
theorem dX5_climb_38 : decode cX5_climb 38 = .ok (.ifCond .eq 12, 3) := by decide +kernel
theorem dX5_climb_41 : decode cX5_climb 41 = .ok (.iload_n 3, 1) := by decide +kernel
theorem dX5_climb_42 : decode cX5_climb 42 = .ok (.iload 5, 2) := by decide +kernel
theorem dX5_climb_44 : decode cX5_climb 44 = .ok (.invokestatic 91, 3) := by decide +kernel
theorem dX5_climb_47 : decode cX5_climb 47 = .ok (.goto 9, 3) := by decide +kernel
theorem dX5_climb_50 : decode cX5_climb 50 = .ok (.iload 5, 2) := by decide +kernel
theorem dX5_climb_52 : decode cX5_climb 52 = .ok (.iload_n 3, 1) := by decide +kernel
theorem dX5_climb_53 : decode cX5_climb 53 = .ok (.invokestatic 91, 3) := by decide +kernel
theorem dX5_climb_56 : decode cX5_climb 56 = .ok (.istore_n 3, 1) := by decide +kernel
theorem dX5_climb_57 : decode cX5_climb 57 = .ok (.iinc 4 1, 3) := by decide +kernel
theorem dX5_climb_60 : decode cX5_climb 60 = .ok (.goto (-55), 3) := by decide +kernel
theorem dX5_climb_63 : decode cX5_climb 63 = .ok (.iload_n 3, 1) := by decide +kernel
theorem dX5_climb_64 : decode cX5_climb 64 = .ok (.ireturn, 1) := by decide +kernel
