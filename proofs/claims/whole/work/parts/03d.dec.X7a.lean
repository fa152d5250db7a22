theorem dX7_init_0 : decode cX7_init 0 = .ok (.aload_n 0, 1) := by decide +kernel
theorem dX7_init_1 : decode cX7_init 1 = .ok (.invokespecial 3, 3) := by decide +kernel
theorem dX7_init_4 : decode cX7_init 4 = .ok (.aload_n 0, 1) := by decide +kernel
theorem dX7_init_5 : decode cX7_init 5 = .ok (.iconst (-1), 1) := by decide +kernel
theorem dX7_init_6 : decode cX7_init 6 = .ok (.putfield 9, 3) := by decide +kernel
theorem dX7_init_9 : decode cX7_init 9 = .ok (.return_, 1) := by decide +kernel
theorem dX7_begin_0 : decode cX7_begin 0 = .ok (.aload_n 0, 1) := by decide +kernel
theorem dX7_begin_1 : decode cX7_begin 1 = .ok (.iload_n 1, 1) := by decide +kernel
theorem dX7_begin_2 : decode cX7_begin 2 = .ok (.putfield 9, 3) := by decide +kernel
theorem dX7_begin_5 : decode cX7_begin 5 = .ok (.aload_n 0, 1) := by decide +kernel
theorem dX7_begin_6 : decode cX7_begin 6 = .ok (.iload_n 2, 1) := by decide +kernel
theorem dX7_begin_7 : decode cX7_begin 7 = .ok (.invokevirtual 15, 3) := by decide +kernel
theorem dX7_begin_10 : decode cX7_begin 10 = .ok (.return_, 1) := by decide +kernel
theorem dX7_setStart_0 : decode cX7_setStart 0 = .ok (.aload_n 0, 1) := by decide +kernel
theorem dX7_setStart_1 : decode cX7_setStart 1 = .ok (.iload_n 1, 1) := by decide +kernel
theorem dX7_setStart_2 : decode cX7_setStart 2 = .ok (.putfield 19, 3) := by decide +kernel
theorem dX7_setStart_5 : decode cX7_setStart 5 = .ok (.aload_n 0, 1) := by decide +kernel
theorem dX7_setStart_6 : decode cX7_setStart 6 = .ok (.iload_n 2, 1) := by decide +kernel
theorem dX7_setStart_7 : decode cX7_setStart 7 = .ok (.putfield 22, 3) := by decide +kernel
theorem dX7_setStart_10 : decode cX7_setStart 10 = .ok (.return_, 1) := by decide +kernel
theorem dX7_setEnd_0 : decode cX7_setEnd 0 = .ok (.aload_n 0, 1) := by decide +kernel
theorem dX7_setEnd_1 : decode cX7_setEnd 1 = .ok (.iload_n 1, 1) := by decide +kernel
theorem dX7_setEnd_2 : decode cX7_setEnd 2 = .ok (.putfield 25, 3) := by decide +kernel
theorem dX7_setEnd_5 : decode cX7_setEnd 5 = .ok (.aload_n 0, 1) := by decide +kernel
theorem dX7_setEnd_6 : decode cX7_setEnd 6 = .ok (.iload_n 2, 1) := by decide +kernel
theorem dX7_setEnd_7 : decode cX7_setEnd 7 = .ok (.putfield 28, 3) := by decide +kernel
theorem dX7_setEnd_10 : decode cX7_setEnd 10 = .ok (.aload_n 0, 1) := by decide +kernel
theorem dX7_setEnd_11 : decode cX7_setEnd 11 = .ok (.iload_n 3, 1) := by decide +kernel
theorem dX7_setEnd_12 : decode cX7_setEnd 12 = .ok (.putfield 31, 3) := by decide +kernel
theorem dX7_setEnd_15 : decode cX7_setEnd 15 = .ok (.return_, 1) := by decide +kernel
theorem dX7_ask_0 : decode cX7_ask 0 = .ok (.aload_n 0, 1) := by decide +kernel
theorem dX7_ask_1 : decode cX7_ask 1 = .ok (.iload_n 1, 1) := by decide +kernel
theorem dX7_ask_2 : decode cX7_ask 2 = .ok (.putfield 34, 3) := by decide +kernel
theorem dX7_ask_5 : decode cX7_ask 5 = .ok (.aload_n 0, 1) := by decide +kernel
theorem dX7_ask_6 : decode cX7_ask 6 = .ok (.iconst 0, 1) := by decide +kernel
theorem dX7_ask_7 : decode cX7_ask 7 = .ok (.putfield 37, 3) := by decide +kernel
theorem dX7_ask_10 : decode cX7_ask 10 = .ok (.aload_n 0, 1) := by decide +kernel
theorem dX7_ask_11 : decode cX7_ask 11 = .ok (.iconst 0, 1) := by decide +kernel
theorem dX7_ask_12 : decode cX7_ask 12 = .ok (.putfield 41, 3) := by decide +kernel
theorem dX7_ask_15 : decode cX7_ask 15 = .ok (.return_, 1) := by decide +kernel
theorem dX7_middle_0 : decode cX7_middle 0 = .ok (.aload_n 0, 1) := by decide +kernel
theorem dX7_middle_1 : decode cX7_middle 1 = .ok (.getfield 19, 3) := by decide +kernel
theorem dX7_middle_4 : decode cX7_middle 4 = .ok (.aload_n 0, 1) := by decide +kernel
theorem dX7_middle_5 : decode cX7_middle 5 = .ok (.getfield 25, 3) := by decide +kernel
theorem dX7_middle_8 : decode cX7_middle 8 = .ok (.iadd, 1) := by decide +kernel
theorem dX7_middle_9 : decode cX7_middle 9 = .ok (.iconst 2, 1) := by decide +kernel
theorem dX7_middle_10 : decode cX7_middle 10 = .ok (.idiv, 1) := by decide +kernel
theorem dX7_middle_11 : decode cX7_middle 11 = .ok (.ireturn, 1) := by decide +kernel
theorem dX7_isNarrow_0 : decode cX7_isNarrow 0 = .ok (.aload_n 0, 1) := by decide +kernel
theorem dX7_isNarrow_1 : decode cX7_isNarrow 1 = .ok (.getfield 25, 3) := by decide +kernel
theorem dX7_isNarrow_4 : decode cX7_isNarrow 4 = .ok (.aload_n 0, 1) := by decide +kernel
theorem dX7_isNarrow_5 : decode cX7_isNarrow 5 = .ok (.getfield 19, 3) := by decide +kernel
theorem dX7_isNarrow_8 : decode cX7_isNarrow 8 = .ok (.isub, 1) := by decide +kernel
theorem dX7_isNarrow_9 : decode cX7_isNarrow 9 = .ok (.iconst 1, 1) := by decide +kernel
theorem dX7_isNarrow_10 : decode cX7_isNarrow 10 = .ok (.if_icmp .gt 7, 3) := by decide +kernel
theorem dX7_isNarrow_13 : decode cX7_isNarrow 13 = .ok (.iconst 1, 1) := by decide +kernel
theorem dX7_isNarrow_14 : decode cX7_isNarrow 14 = .ok (.goto 4, 3) := by decide +kernel
theorem dX7_isNarrow_17 : decode cX7_isNarrow 17 = .ok (.iconst 0, 1) := by decide +kernel
theorem dX7_isNarrow_18 : decode cX7_isNarrow 18 = .ok (.ireturn, 1) := by decide +kernel
theorem dX7_hasTold_0 : decode cX7_hasTold 0 = .ok (.iload_n 1, 1) := by decide +kernel
theorem dX7_hasTold_1 : decode cX7_hasTold 1 = .ok (.ifCond .eq 10, 3) := by decide +kernel
theorem dX7_hasTold_4 : decode cX7_hasTold 4 = .ok (.aload_n 0, 1) := by decide +kernel
theorem dX7_hasTold_5 : decode cX7_hasTold 5 = .ok (.getfield 37, 3) := by decide +kernel
theorem dX7_hasTold_8 : decode cX7_hasTold 8 = .ok (.goto 7, 3) := by decide +kernel
theorem dX7_hasTold_11 : decode cX7_hasTold 11 = .ok (.aload_n 0, 1) := by decide +kernel
theorem dX7_hasTold_12 : decode cX7_hasTold 12 = .ok (.getfield 41, 3) := by decide +kernel
theorem dX7_hasTold_15 : decode cX7_hasTold 15 = .ok (.ireturn, 1) := by decide +kernel
theorem dX7_tell_0 : decode cX7_tell 0 = .ok (.iload_n 1, 1) := by decide +kernel
theorem dX7_tell_1 : decode cX7_tell 1 = .ok (.ifCond .eq 16, 3) := by decide +kernel
theorem dX7_tell_4 : decode cX7_tell 4 = .ok (.aload_n 0, 1) := by decide +kernel
theorem dX7_tell_5 : decode cX7_tell 5 = .ok (.iconst 1, 1) := by decide +kernel
theorem dX7_tell_6 : decode cX7_tell 6 = .ok (.putfield 37, 3) := by decide +kernel
theorem dX7_tell_9 : decode cX7_tell 9 = .ok (.aload_n 0, 1) := by decide +kernel
theorem dX7_tell_10 : decode cX7_tell 10 = .ok (.iload_n 2, 1) := by decide +kernel
theorem dX7_tell_11 : decode cX7_tell 11 = .ok (.putfield 44, 3) := by decide +kernel
theorem dX7_tell_14 : decode cX7_tell 14 = .ok (.goto 13, 3) := by decide +kernel
theorem dX7_tell_17 : decode cX7_tell 17 = .ok (.aload_n 0, 1) := by decide +kernel
theorem dX7_tell_18 : decode cX7_tell 18 = .ok (.iconst 1, 1) := by decide +kernel
theorem dX7_tell_19 : decode cX7_tell 19 = .ok (.putfield 41, 3) := by decide +kernel
theorem dX7_tell_22 : decode cX7_tell 22 = .ok (.aload_n 0, 1) := by decide +kernel
theorem dX7_tell_23 : decode cX7_tell 23 = .ok (.iload_n 2, 1) := by decide +kernel
theorem dX7_tell_24 : decode cX7_tell 24 = .ok (.putfield 47, 3) := by decide +kernel
theorem dX7_tell_27 : decode cX7_tell 27 = .ok (.aload_n 0, 1) := by decide +kernel
theorem dX7_tell_28 : decode cX7_tell 28 = .ok (.getfield 37, 3) := by decide +kernel
theorem dX7_tell_31 : decode cX7_tell 31 = .ok (.ifCond .eq 19, 3) := by decide +kernel
theorem dX7_tell_34 : decode cX7_tell 34 = .ok (.aload_n 0, 1) := by decide +kernel
theorem dX7_tell_35 : decode cX7_tell 35 = .ok (.getfield 41, 3) := by decide +kernel
theorem dX7_tell_38 : decode cX7_tell 38 = .ok (.ifCond .eq 12, 3) := by decide +kernel
theorem dX7_tell_41 : decode cX7_tell 41 = .ok (.aload_n 0, 1) := by decide +kernel
theorem dX7_tell_42 : decode cX7_tell 42 = .ok (.invokevirtual 50, 3) := by decide +kernel
theorem dX7_tell_45 : decode cX7_tell 45 = .ok (.aload_n 0, 1) := by decide +kernel
theorem dX7_tell_46 : decode cX7_tell 46 = .ok (.iload_n 3, 1) := by decide +kernel
theorem dX7_tell_47 : decode cX7_tell 47 = .ok (.invokevirtual 15, 3) := by decide +kernel
theorem dX7_tell_50 : decode cX7_tell 50 = .ok (.return_, 1) := by decide +kernel
theorem dX7_halve_0 : decode cX7_halve 0 = .ok (.aload_n 0, 1) := by decide +kernel
theorem dX7_halve_1 : decode cX7_halve 1 = .ok (.getfield 44, 3) := by decide +kernel
theorem dX7_halve_4 : decode cX7_halve 4 = .ok (.aload_n 0, 1) := by decide +kernel
theorem dX7_halve_5 : decode cX7_halve 5 = .ok (.getfield 47, 3) := by decide +kernel
theorem dX7_halve_8 : decode cX7_halve 8 = .ok (.if_icmp .ne 18, 3) := by decide +kernel
theorem dX7_halve_11 : decode cX7_halve 11 = .ok (.aload_n 0, 1) := by decide +kernel
theorem dX7_halve_12 : decode cX7_halve 12 = .ok (.aload_n 0, 1) := by decide +kernel
theorem dX7_halve_13 : decode cX7_halve 13 = .ok (.invokevirtual 53, 3) := by decide +kernel
theorem dX7_halve_16 : decode cX7_halve 16 = .ok (.aload_n 0, 1) := by decide +kernel
theorem dX7_halve_17 : decode cX7_halve 17 = .ok (.getfield 44, 3) := by decide +kernel
theorem dX7_halve_20 : decode cX7_halve 20 = .ok (.invokevirtual 57, 3) := by decide +kernel
theorem dX7_halve_23 : decode cX7_halve 23 = .ok (.goto 19, 3) := by decide +kernel
theorem dX7_halve_26 : decode cX7_halve 26 = .ok (.aload_n 0, 1) := by decide +kernel
theorem dX7_halve_27 : decode cX7_halve 27 = .ok (.aload_n 0, 1) := by decide +kernel
theorem dX7_halve_28 : decode cX7_halve 28 = .ok (.invokevirtual 53, 3) := by decide +kernel
theorem dX7_halve_31 : decode cX7_halve 31 = .ok (.aload_n 0, 1) := by decide +kernel
theorem dX7_halve_32 : decode cX7_halve 32 = .ok (.getfield 44, 3) := by decide +kernel
theorem dX7_halve_35 : decode cX7_halve 35 = .ok (.aload_n 0, 1) := by decide +kernel
theorem dX7_halve_36 : decode cX7_halve 36 = .ok (.getfield 47, 3) := by decide +kernel
theorem dX7_halve_39 : decode cX7_halve 39 = .ok (.invokevirtual 61, 3) := by decide +kernel
theorem dX7_halve_42 : decode cX7_halve 42 = .ok (.return_, 1) := by decide +kernel
