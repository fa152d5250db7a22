theorem dX10_init_0 : decode cX10_init 0 = .ok (.aload_n 0, 1) := by decide +kernel
theorem dX10_init_1 : decode cX10_init 1 = .ok (.invokespecial 1, 3) := by decide +kernel
theorem dX10_init_4 : decode cX10_init 4 = .ok (.aload_n 0, 1) := by decide +kernel
theorem dX10_init_5 : decode cX10_init 5 = .ok (.new 7, 3) := by decide +kernel
theorem dX10_init_8 : decode cX10_init 8 = .ok (.dup, 1) := by decide +kernel
theorem dX10_init_9 : decode cX10_init 9 = .ok (.invokespecial 9, 3) := by decide +kernel
theorem dX10_init_12 : decode cX10_init 12 = .ok (.putfield 10, 3) := by decide +kernel
theorem dX10_init_15 : decode cX10_init 15 = .ok (.aload_n 0, 1) := by decide +kernel
theorem dX10_init_16 : decode cX10_init 16 = .ok (.new 16, 3) := by decide +kernel
theorem dX10_init_19 : decode cX10_init 19 = .ok (.dup, 1) := by decide +kernel
theorem dX10_init_20 : decode cX10_init 20 = .ok (.invokespecial 18, 3) := by decide +kernel
theorem dX10_init_23 : decode cX10_init 23 = .ok (.putfield 19, 3) := by decide +kernel
theorem dX10_init_26 : decode cX10_init 26 = .ok (.aload_n 0, 1) := by decide +kernel
theorem dX10_init_27 : decode cX10_init 27 = .ok (.new 23, 3) := by decide +kernel
theorem dX10_init_30 : decode cX10_init 30 = .ok (.dup, 1) := by decide +kernel
theorem dX10_init_31 : decode cX10_init 31 = .ok (.invokespecial 25, 3) := by decide +kernel
theorem dX10_init_34 : decode cX10_init 34 = .ok (.putfield 26, 3) := by decide +kernel
theorem dX10_init_37 : decode cX10_init 37 = .ok (.aload_n 0, 1) := by decide +kernel
theorem dX10_init_38 : decode cX10_init 38 = .ok (.bipush 6, 2) := by decide +kernel
theorem dX10_init_40 : decode cX10_init 40 = .ok (.anewarray 30, 3) := by decide +kernel
theorem dX10_init_43 : decode cX10_init 43 = .ok (.putfield 32, 3) := by decide +kernel
theorem dX10_init_46 : decode cX10_init 46 = .ok (.aload_n 0, 1) := by decide +kernel
theorem dX10_init_47 : decode cX10_init 47 = .ok (.iconst (-1), 1) := by decide +kernel
theorem dX10_init_48 : decode cX10_init 48 = .ok (.putfield 36, 3) := by decide +kernel
theorem dX10_init_51 : decode cX10_init 51 = .ok (.iconst 0, 1) := by decide +kernel
theorem dX10_init_52 : decode cX10_init 52 = .ok (.istore_n 1, 1) := by decide +kernel
theorem dX10_init_53 : decode cX10_init 53 = .ok (.iload_n 1, 1) := by decide +kernel
theorem dX10_init_54 : decode cX10_init 54 = .ok (.bipush 6, 2) := by decide +kernel
theorem dX10_init_56 : decode cX10_init 56 = .ok (.if_icmp .ge 22, 3) := by decide +kernel
theorem dX10_init_59 : decode cX10_init 59 = .ok (.aload_n 0, 1) := by decide +kernel
theorem dX10_init_60 : decode cX10_init 60 = .ok (.getfield 32, 3) := by decide +kernel
theorem dX10_init_63 : decode cX10_init 63 = .ok (.iload_n 1, 1) := by decide +kernel
theorem dX10_init_64 : decode cX10_init 64 = .ok (.new 30, 3) := by decide +kernel
theorem dX10_init_67 : decode cX10_init 67 = .ok (.dup, 1) := by decide +kernel
theorem dX10_init_68 : decode cX10_init 68 = .ok (.invokespecial 40, 3) := by decide +kernel
theorem dX10_init_71 : decode cX10_init 71 = .ok (.aastore, 1) := by decide +kernel
theorem dX10_init_72 : decode cX10_init 72 = .ok (.iinc 1 1, 3) := by decide +kernel
theorem dX10_init_75 : decode cX10_init 75 = .ok (.goto (-22), 3) := by decide +kernel
theorem dX10_init_78 : decode cX10_init 78 = .ok (.return_, 1) := by decide +kernel
theorem dX10_feed_0 : decode cX10_feed 0 = .ok (.aload_n 0, 1) := by decide +kernel
theorem dX10_feed_1 : decode cX10_feed 1 = .ok (.getfield 10, 3) := by decide +kernel
theorem dX10_feed_4 : decode cX10_feed 4 = .ok (.getfield 41, 3) := by decide +kernel
theorem dX10_feed_7 : decode cX10_feed 7 = .ok (.astore 6, 2) := by decide +kernel
theorem dX10_feed_9 : decode cX10_feed 9 = .ok (.aload 6, 2) := by decide +kernel
theorem dX10_feed_11 : decode cX10_feed 11 = .ok (.getfield 45, 3) := by decide +kernel
theorem dX10_feed_14 : decode cX10_feed 14 = .ok (.bipush 20, 2) := by decide +kernel
theorem dX10_feed_16 : decode cX10_feed 16 = .ok (.iadd, 1) := by decide +kernel
theorem dX10_feed_17 : decode cX10_feed 17 = .ok (.sipush 400, 3) := by decide +kernel
theorem dX10_feed_20 : decode cX10_feed 20 = .ok (.if_icmp .le 5, 3) := by decide +kernel
theorem dX10_feed_23 : decode cX10_feed 23 = .ok (.iconst (-1), 1) := by decide +kernel
theorem dX10_feed_24 : decode cX10_feed 24 = .ok (.ireturn, 1) := by decide +kernel
theorem dX10_feed_25 : decode cX10_feed 25 = .ok (.aload 6, 2) := by decide +kernel
theorem dX10_feed_27 : decode cX10_feed 27 = .ok (.iload_n 1, 1) := by decide +kernel
theorem dX10_feed_28 : decode cX10_feed 28 = .ok (.invokevirtual 50, 3) := by decide +kernel
theorem dX10_feed_31 : decode cX10_feed 31 = .ok (.aload 6, 2) := by decide +kernel
theorem dX10_feed_33 : decode cX10_feed 33 = .ok (.iload_n 2, 1) := by decide +kernel
theorem dX10_feed_34 : decode cX10_feed 34 = .ok (.invokevirtual 50, 3) := by decide +kernel
theorem dX10_feed_37 : decode cX10_feed 37 = .ok (.aload 6, 2) := by decide +kernel
theorem dX10_feed_39 : decode cX10_feed 39 = .ok (.iload_n 3, 1) := by decide +kernel
theorem dX10_feed_40 : decode cX10_feed 40 = .ok (.invokevirtual 50, 3) := by decide +kernel
theorem dX10_feed_43 : decode cX10_feed 43 = .ok (.aload 6, 2) := by decide +kernel
theorem dX10_feed_45 : decode cX10_feed 45 = .ok (.iload 4, 2) := by decide +kernel
theorem dX10_feed_47 : decode cX10_feed 47 = .ok (.invokevirtual 50, 3) := by decide +kernel
theorem dX10_feed_50 : decode cX10_feed 50 = .ok (.aload 6, 2) := by decide +kernel
theorem dX10_feed_52 : decode cX10_feed 52 = .ok (.iload 5, 2) := by decide +kernel
theorem dX10_feed_54 : decode cX10_feed 54 = .ok (.invokevirtual 50, 3) := by decide +kernel
theorem dX10_feed_57 : decode cX10_feed 57 = .ok (.aload 6, 2) := by decide +kernel
theorem dX10_feed_59 : decode cX10_feed 59 = .ok (.getfield 45, 3) := by decide +kernel
theorem dX10_feed_62 : decode cX10_feed 62 = .ok (.ireturn, 1) := by decide +kernel
theorem dX10_task_0 : decode cX10_task 0 = .ok (.aload_n 0, 1) := by decide +kernel
theorem dX10_task_1 : decode cX10_task 1 = .ok (.getfield 10, 3) := by decide +kernel
theorem dX10_task_4 : decode cX10_task 4 = .ok (.getfield 41, 3) := by decide +kernel
theorem dX10_task_7 : decode cX10_task 7 = .ok (.astore_n 3, 1) := by decide +kernel
theorem dX10_task_8 : decode cX10_task 8 = .ok (.iload_n 1, 1) := by decide +kernel
theorem dX10_task_9 : decode cX10_task 9 = .ok (.iconst 0, 1) := by decide +kernel
theorem dX10_task_10 : decode cX10_task 10 = .ok (.ldc 54, 2) := by decide +kernel
theorem dX10_task_12 : decode cX10_task 12 = .ok (.invokestatic 55, 3) := by decide +kernel
theorem dX10_task_15 : decode cX10_task 15 = .ok (.ifCond .eq 15, 3) := by decide +kernel
theorem dX10_task_18 : decode cX10_task 18 = .ok (.iload_n 2, 1) := by decide +kernel
theorem dX10_task_19 : decode cX10_task 19 = .ok (.iconst 0, 1) := by decide +kernel
theorem dX10_task_20 : decode cX10_task 20 = .ok (.aload_n 3, 1) := by decide +kernel
theorem dX10_task_21 : decode cX10_task 21 = .ok (.getfield 45, 3) := by decide +kernel
theorem dX10_task_24 : decode cX10_task 24 = .ok (.invokestatic 55, 3) := by decide +kernel
theorem dX10_task_27 : decode cX10_task 27 = .ok (.ifCond .ne 11, 3) := by decide +kernel
theorem dX10_task_30 : decode cX10_task 30 = .ok (.new 59, 3) := by decide +kernel
theorem dX10_task_33 : decode cX10_task 33 = .ok (.dup, 1) := by decide +kernel
theorem dX10_task_34 : decode cX10_task 34 = .ok (.invokespecial 61, 3) := by decide +kernel
theorem dX10_task_37 : decode cX10_task 37 = .ok (.athrow, 1) := by decide +kernel
theorem dX10_task_38 : decode cX10_task 38 = .ok (.aload_n 3, 1) := by decide +kernel
theorem dX10_task_39 : decode cX10_task 39 = .ok (.iconst 0, 1) := by decide +kernel
theorem dX10_task_40 : decode cX10_task 40 = .ok (.putfield 45, 3) := by decide +kernel
theorem dX10_task_43 : decode cX10_task 43 = .ok (.aload_n 0, 1) := by decide +kernel
theorem dX10_task_44 : decode cX10_task 44 = .ok (.iconst (-1), 1) := by decide +kernel
theorem dX10_task_45 : decode cX10_task 45 = .ok (.putfield 36, 3) := by decide +kernel
theorem dX10_task_48 : decode cX10_task 48 = .ok (.aload_n 0, 1) := by decide +kernel
theorem dX10_task_49 : decode cX10_task 49 = .ok (.getfield 62, 3) := by decide +kernel
theorem dX10_task_52 : decode cX10_task 52 = .ok (.bipush 6, 2) := by decide +kernel
theorem dX10_task_54 : decode cX10_task 54 = .ok (.if_icmp .lt 5, 3) := by decide +kernel
theorem dX10_task_57 : decode cX10_task 57 = .ok (.iconst (-1), 1) := by decide +kernel
theorem dX10_task_58 : decode cX10_task 58 = .ok (.ireturn, 1) := by decide +kernel
theorem dX10_task_59 : decode cX10_task 59 = .ok (.aload_n 0, 1) := by decide +kernel
theorem dX10_task_60 : decode cX10_task 60 = .ok (.getfield 10, 3) := by decide +kernel
theorem dX10_task_63 : decode cX10_task 63 = .ok (.iload_n 2, 1) := by decide +kernel
theorem dX10_task_64 : decode cX10_task 64 = .ok (.invokevirtual 65, 3) := by decide +kernel
theorem dX10_task_67 : decode cX10_task 67 = .ok (.istore 4, 2) := by decide +kernel
theorem dX10_task_69 : decode cX10_task 69 = .ok (.iload 4, 2) := by decide +kernel
theorem dX10_task_71 : decode cX10_task 71 = .ok (.ifCond .eq 20, 3) := by decide +kernel
theorem dX10_task_74 : decode cX10_task 74 = .ok (.aload_n 0, 1) := by decide +kernel
theorem dX10_task_75 : decode cX10_task 75 = .ok (.aload_n 0, 1) := by decide +kernel
theorem dX10_task_76 : decode cX10_task 76 = .ok (.getfield 10, 3) := by decide +kernel
theorem dX10_task_79 : decode cX10_task 79 = .ok (.getfield 69, 3) := by decide +kernel
theorem dX10_task_82 : decode cX10_task 82 = .ok (.putfield 36, 3) := by decide +kernel
theorem dX10_task_85 : decode cX10_task 85 = .ok (.iload 4, 2) := by decide +kernel
theorem dX10_task_87 : decode cX10_task 87 = .ok (.bipush 10, 2) := by decide +kernel
theorem dX10_task_89 : decode cX10_task 89 = .ok (.isub, 1) := by decide +kernel
theorem dX10_task_90 : decode cX10_task 90 = .ok (.ireturn, 1) := by decide +kernel
theorem dX10_task_91 : decode cX10_task 91 = .ok (.aload_n 0, 1) := by decide +kernel
theorem dX10_task_92 : decode cX10_task 92 = .ok (.getfield 32, 3) := by decide +kernel
theorem dX10_task_95 : decode cX10_task 95 = .ok (.aload_n 0, 1) := by decide +kernel
theorem dX10_task_96 : decode cX10_task 96 = .ok (.getfield 62, 3) := by decide +kernel
theorem dX10_task_99 : decode cX10_task 99 = .ok (.aaload, 1) := by decide +kernel
theorem dX10_task_100 : decode cX10_task 100 = .ok (.aload_n 0, 1) := by decide +kernel
theorem dX10_task_101 : decode cX10_task 101 = .ok (.getfield 10, 3) := by decide +kernel
theorem dX10_task_104 : decode cX10_task 104 = .ok (.aload_n 3, 1) := by decide +kernel
theorem dX10_task_105 : decode cX10_task 105 = .ok (.iload_n 2, 1) := by decide +kernel
theorem dX10_task_106 : decode cX10_task 106 = .ok (.invokestatic 72, 3) := by decide +kernel
theorem dX10_task_109 : decode cX10_task 109 = .ok (.iload_n 1, 1) := by decide +kernel
theorem dX10_task_110 : decode cX10_task 110 = .ok (.invokevirtual 78, 3) := by decide +kernel
theorem dX10_task_113 : decode cX10_task 113 = .ok (.aload_n 0, 1) := by decide +kernel
theorem dX10_task_114 : decode cX10_task 114 = .ok (.dup, 1) := by decide +kernel
theorem dX10_task_115 : decode cX10_task 115 = .ok (.getfield 62, 3) := by decide +kernel
theorem dX10_task_118 : decode cX10_task 118 = .ok (.iconst 1, 1) := by decide +kernel
theorem dX10_task_119 : decode cX10_task 119 = .ok (.iadd, 1) := by decide +kernel
theorem dX10_task_120 : decode cX10_task 120 = .ok (.putfield 62, 3) := by decide +kernel
theorem dX10_task_123 : decode cX10_task 123 = .ok (.aload_n 0, 1) := by decide +kernel
theorem dX10_task_124 : decode cX10_task 124 = .ok (.getfield 62, 3) := by decide +kernel
theorem dX10_task_127 : decode cX10_task 127 = .ok (.iconst 1, 1) := by decide +kernel
theorem dX10_task_128 : decode cX10_task 128 = .ok (.isub, 1) := by decide +kernel
theorem dX10_task_129 : decode cX10_task 129 = .ok (.ireturn, 1) := by decide +kernel
theorem dX10_fault_0 : decode cX10_fault 0 = .ok (.aload_n 0, 1) := by decide +kernel
theorem dX10_fault_1 : decode cX10_fault 1 = .ok (.getfield 36, 3) := by decide +kernel
theorem dX10_fault_4 : decode cX10_fault 4 = .ok (.ireturn, 1) := by decide +kernel
theorem dX10_code_0 : decode cX10_code 0 = .ok (.aload_n 0, 1) := by decide +kernel
theorem dX10_code_1 : decode cX10_code 1 = .ok (.iload_n 1, 1) := by decide +kernel
theorem dX10_code_2 : decode cX10_code 2 = .ok (.invokevirtual 82, 3) := by decide +kernel
theorem dX10_code_5 : decode cX10_code 5 = .ok (.astore 4, 2) := by decide +kernel
theorem dX10_code_7 : decode cX10_code 7 = .ok (.iload_n 3, 1) := by decide +kernel
theorem dX10_code_8 : decode cX10_code 8 = .ok (.ifCond .eq 16, 3) := by decide +kernel
theorem dX10_code_11 : decode cX10_code 11 = .ok (.iload_n 3, 1) := by decide +kernel
theorem dX10_code_12 : decode cX10_code 12 = .ok (.iconst 1, 1) := by decide +kernel
theorem dX10_code_13 : decode cX10_code 13 = .ok (.if_icmp .eq 11, 3) := by decide +kernel
theorem dX10_code_16 : decode cX10_code 16 = .ok (.new 59, 3) := by decide +kernel
theorem dX10_code_19 : decode cX10_code 19 = .ok (.dup, 1) := by decide +kernel
theorem dX10_code_20 : decode cX10_code 20 = .ok (.invokespecial 61, 3) := by decide +kernel
theorem dX10_code_23 : decode cX10_code 23 = .ok (.athrow, 1) := by decide +kernel
theorem dX10_code_24 : decode cX10_code 24 = .ok (.aload 4, 2) := by decide +kernel
theorem dX10_code_26 : decode cX10_code 26 = .ok (.iload_n 2, 1) := by decide +kernel
theorem dX10_code_27 : decode cX10_code 27 = .ok (.invokevirtual 86, 3) := by decide +kernel
theorem dX10_code_30 : decode cX10_code 30 = .ok (.ifCond .ne 5, 3) := by decide +kernel
theorem dX10_code_33 : decode cX10_code 33 = .ok (.iconst (-1), 1) := by decide +kernel
theorem dX10_code_34 : decode cX10_code 34 = .ok (.ireturn, 1) := by decide +kernel
theorem dX10_code_35 : decode cX10_code 35 = .ok (.iload_n 3, 1) := by decide +kernel
theorem dX10_code_36 : decode cX10_code 36 = .ok (.ifCond .ne 13, 3) := by decide +kernel
theorem dX10_code_39 : decode cX10_code 39 = .ok (.aload 4, 2) := by decide +kernel
theorem dX10_code_41 : decode cX10_code 41 = .ok (.getfield 90, 3) := by decide +kernel
theorem dX10_code_44 : decode cX10_code 44 = .ok (.iload_n 2, 1) := by decide +kernel
theorem dX10_code_45 : decode cX10_code 45 = .ok (.iaload, 1) := by decide +kernel
theorem dX10_code_46 : decode cX10_code 46 = .ok (.goto 10, 3) := by decide +kernel
theorem dX10_code_49 : decode cX10_code 49 = .ok (.aload 4, 2) := by decide +kernel
theorem dX10_code_51 : decode cX10_code 51 = .ok (.getfield 94, 3) := by decide +kernel
theorem dX10_code_54 : decode cX10_code 54 = .ok (.iload_n 2, 1) := by decide +kernel
theorem dX10_code_55 : decode cX10_code 55 = .ok (.iaload, 1) := by decide +kernel
theorem dX10_code_56 : decode cX10_code 56 = .ok (.ireturn, 1) := by decide +kernel
theorem dX10_memory_0 : decode cX10_memory 0 = .ok (.aload_n 0, 1) := by decide +kernel
theorem dX10_memory_1 : decode cX10_memory 1 = .ok (.iload_n 1, 1) := by decide +kernel
theorem dX10_memory_2 : decode cX10_memory 2 = .ok (.invokevirtual 82, 3) := by decide +kernel
theorem dX10_memory_5 : decode cX10_memory 5 = .ok (.astore 4, 2) := by decide +kernel
theorem dX10_memory_7 : decode cX10_memory 7 = .ok (.iload_n 2, 1) := by decide +kernel
theorem dX10_memory_8 : decode cX10_memory 8 = .ok (.iconst 0, 1) := by decide +kernel
theorem dX10_memory_9 : decode cX10_memory 9 = .ok (.bipush 63, 2) := by decide +kernel
theorem dX10_memory_11 : decode cX10_memory 11 = .ok (.invokestatic 55, 3) := by decide +kernel
theorem dX10_memory_14 : decode cX10_memory 14 = .ok (.ifCond .ne 11, 3) := by decide +kernel
theorem dX10_memory_17 : decode cX10_memory 17 = .ok (.new 59, 3) := by decide +kernel
theorem dX10_memory_20 : decode cX10_memory 20 = .ok (.dup, 1) := by decide +kernel
theorem dX10_memory_21 : decode cX10_memory 21 = .ok (.invokespecial 61, 3) := by decide +kernel
theorem dX10_memory_24 : decode cX10_memory 24 = .ok (.athrow, 1) := by decide +kernel
theorem dX10_memory_25 : decode cX10_memory 25 = .ok (.aload 4, 2) := by decide +kernel
theorem dX10_memory_27 : decode cX10_memory 27 = .ok (.getfield 97, 3) := by decide +kernel
theorem dX10_memory_30 : decode cX10_memory 30 = .ok (.ifCond .le 5, 3) := by decide +kernel
theorem dX10_memory_33 : decode cX10_memory 33 = .ok (.iconst (-1), 1) := by decide +kernel
theorem dX10_memory_34 : decode cX10_memory 34 = .ok (.ireturn, 1) := by decide +kernel
theorem dX10_memory_35 : decode cX10_memory 35 = .ok (.aload 4, 2) := by decide +kernel
theorem dX10_memory_37 : decode cX10_memory 37 = .ok (.getfield 100, 3) := by decide +kernel
theorem dX10_memory_40 : decode cX10_memory 40 = .ok (.iload_n 2, 1) := by decide +kernel
theorem dX10_memory_41 : decode cX10_memory 41 = .ok (.iload_n 3, 1) := by decide +kernel
theorem dX10_memory_42 : decode cX10_memory 42 = .ok (.iastore, 1) := by decide +kernel
theorem dX10_memory_43 : decode cX10_memory 43 = .ok (.aload_n 0, 1) := by decide +kernel
theorem dX10_memory_44 : decode cX10_memory 44 = .ok (.getfield 19, 3) := by decide +kernel
theorem dX10_memory_47 : decode cX10_memory 47 = .ok (.getfield 103, 3) := by decide +kernel
theorem dX10_memory_50 : decode cX10_memory 50 = .ok (.invokevirtual 107, 3) := by decide +kernel
theorem dX10_memory_53 : decode cX10_memory 53 = .ok (.iconst 1, 1) := by decide +kernel
theorem dX10_memory_54 : decode cX10_memory 54 = .ok (.ireturn, 1) := by decide +kernel
theorem dX10_length_0 : decode cX10_length 0 = .ok (.aload_n 0, 1) := by decide +kernel
theorem dX10_length_1 : decode cX10_length 1 = .ok (.getfield 19, 3) := by decide +kernel
theorem dX10_length_4 : decode cX10_length 4 = .ok (.getfield 103, 3) := by decide +kernel
theorem dX10_length_7 : decode cX10_length 7 = .ok (.aload_n 0, 1) := by decide +kernel
theorem dX10_length_8 : decode cX10_length 8 = .ok (.iload_n 1, 1) := by decide +kernel
theorem dX10_length_9 : decode cX10_length 9 = .ok (.invokevirtual 82, 3) := by decide +kernel
theorem dX10_length_12 : decode cX10_length 12 = .ok (.invokevirtual 112, 3) := by decide +kernel
theorem dX10_length_15 : decode cX10_length 15 = .ok (.ireturn, 1) := by decide +kernel
theorem dX10_cell_0 : decode cX10_cell 0 = .ok (.aload_n 0, 1) := by decide +kernel
theorem dX10_cell_1 : decode cX10_cell 1 = .ok (.iload_n 1, 1) := by decide +kernel
theorem dX10_cell_2 : decode cX10_cell 2 = .ok (.invokevirtual 82, 3) := by decide +kernel
theorem dX10_cell_5 : decode cX10_cell 5 = .ok (.astore 4, 2) := by decide +kernel
theorem dX10_cell_7 : decode cX10_cell 7 = .ok (.iload_n 3, 1) := by decide +kernel
theorem dX10_cell_8 : decode cX10_cell 8 = .ok (.iconst 0, 1) := by decide +kernel
theorem dX10_cell_9 : decode cX10_cell 9 = .ok (.bipush 127, 2) := by decide +kernel
theorem dX10_cell_11 : decode cX10_cell 11 = .ok (.invokestatic 55, 3) := by decide +kernel
theorem dX10_cell_14 : decode cX10_cell 14 = .ok (.ifCond .eq 14, 3) := by decide +kernel
theorem dX10_cell_17 : decode cX10_cell 17 = .ok (.iload_n 2, 1) := by decide +kernel
theorem dX10_cell_18 : decode cX10_cell 18 = .ok (.iconst 0, 1) := by decide +kernel
theorem dX10_cell_19 : decode cX10_cell 19 = .ok (.sipush 20000, 3) := by decide +kernel
theorem dX10_cell_22 : decode cX10_cell 22 = .ok (.invokestatic 55, 3) := by decide +kernel
theorem dX10_cell_25 : decode cX10_cell 25 = .ok (.ifCond .ne 11, 3) := by decide +kernel
theorem dX10_cell_28 : decode cX10_cell 28 = .ok (.new 59, 3) := by decide +kernel
theorem dX10_cell_31 : decode cX10_cell 31 = .ok (.dup, 1) := by decide +kernel
theorem dX10_cell_32 : decode cX10_cell 32 = .ok (.invokespecial 61, 3) := by decide +kernel
theorem dX10_cell_35 : decode cX10_cell 35 = .ok (.athrow, 1) := by decide +kernel
theorem dX10_cell_36 : decode cX10_cell 36 = .ok (.aload_n 0, 1) := by decide +kernel
theorem dX10_cell_37 : decode cX10_cell 37 = .ok (.getfield 19, 3) := by decide +kernel
theorem dX10_cell_40 : decode cX10_cell 40 = .ok (.getfield 103, 3) := by decide +kernel
theorem dX10_cell_43 : decode cX10_cell 43 = .ok (.aload 4, 2) := by decide +kernel
theorem dX10_cell_45 : decode cX10_cell 45 = .ok (.iload_n 2, 1) := by decide +kernel
theorem dX10_cell_46 : decode cX10_cell 46 = .ok (.invokevirtual 116, 3) := by decide +kernel
theorem dX10_cell_49 : decode cX10_cell 49 = .ok (.aload_n 0, 1) := by decide +kernel
theorem dX10_cell_50 : decode cX10_cell 50 = .ok (.getfield 19, 3) := by decide +kernel
theorem dX10_cell_53 : decode cX10_cell 53 = .ok (.getfield 103, 3) := by decide +kernel
theorem dX10_cell_56 : decode cX10_cell 56 = .ok (.getfield 120, 3) := by decide +kernel
theorem dX10_cell_59 : decode cX10_cell 59 = .ok (.iload_n 3, 1) := by decide +kernel
theorem dX10_cell_60 : decode cX10_cell 60 = .ok (.iaload, 1) := by decide +kernel
theorem dX10_cell_61 : decode cX10_cell 61 = .ok (.ireturn, 1) := by decide +kernel
theorem dX10_sum_0 : decode cX10_sum 0 = .ok (.aload_n 0, 1) := by decide +kernel
theorem dX10_sum_1 : decode cX10_sum 1 = .ok (.iload_n 1, 1) := by decide +kernel
theorem dX10_sum_2 : decode cX10_sum 2 = .ok (.invokevirtual 82, 3) := by decide +kernel
theorem dX10_sum_5 : decode cX10_sum 5 = .ok (.astore_n 3, 1) := by decide +kernel
theorem dX10_sum_6 : decode cX10_sum 6 = .ok (.iload_n 2, 1) := by decide +kernel
theorem dX10_sum_7 : decode cX10_sum 7 = .ok (.iconst 0, 1) := by decide +kernel
theorem dX10_sum_8 : decode cX10_sum 8 = .ok (.sipush 20000, 3) := by decide +kernel
theorem dX10_sum_11 : decode cX10_sum 11 = .ok (.invokestatic 55, 3) := by decide +kernel
theorem dX10_sum_14 : decode cX10_sum 14 = .ok (.ifCond .ne 11, 3) := by decide +kernel
theorem dX10_sum_17 : decode cX10_sum 17 = .ok (.new 59, 3) := by decide +kernel
theorem dX10_sum_20 : decode cX10_sum 20 = .ok (.dup, 1) := by decide +kernel
theorem dX10_sum_21 : decode cX10_sum 21 = .ok (.invokespecial 61, 3) := by decide +kernel
theorem dX10_sum_24 : decode cX10_sum 24 = .ok (.athrow, 1) := by decide +kernel
theorem dX10_sum_25 : decode cX10_sum 25 = .ok (.aload_n 0, 1) := by decide +kernel
theorem dX10_sum_26 : decode cX10_sum 26 = .ok (.getfield 19, 3) := by decide +kernel
theorem dX10_sum_29 : decode cX10_sum 29 = .ok (.getfield 103, 3) := by decide +kernel
theorem dX10_sum_32 : decode cX10_sum 32 = .ok (.aload_n 3, 1) := by decide +kernel
theorem dX10_sum_33 : decode cX10_sum 33 = .ok (.iload_n 2, 1) := by decide +kernel
theorem dX10_sum_34 : decode cX10_sum 34 = .ok (.invokevirtual 123, 3) := by decide +kernel
theorem dX10_sum_37 : decode cX10_sum 37 = .ok (.ireturn, 1) := by decide +kernel
theorem dX10_beside_0 : decode cX10_beside 0 = .ok (.aload_n 0, 1) := by decide +kernel
theorem dX10_beside_1 : decode cX10_beside 1 = .ok (.iload_n 1, 1) := by decide +kernel
theorem dX10_beside_2 : decode cX10_beside 2 = .ok (.invokevirtual 82, 3) := by decide +kernel
theorem dX10_beside_5 : decode cX10_beside 5 = .ok (.astore 5, 2) := by decide +kernel
theorem dX10_beside_7 : decode cX10_beside 7 = .ok (.iload_n 3, 1) := by decide +kernel
theorem dX10_beside_8 : decode cX10_beside 8 = .ok (.iconst 0, 1) := by decide +kernel
theorem dX10_beside_9 : decode cX10_beside 9 = .ok (.bipush 15, 2) := by decide +kernel
theorem dX10_beside_11 : decode cX10_beside 11 = .ok (.invokestatic 55, 3) := by decide +kernel
theorem dX10_beside_14 : decode cX10_beside 14 = .ok (.ifCond .eq 24, 3) := by decide +kernel
theorem dX10_beside_17 : decode cX10_beside 17 = .ok (.iload 4, 2) := by decide +kernel
theorem dX10_beside_19 : decode cX10_beside 19 = .ok (.iconst 0, 1) := by decide +kernel
theorem dX10_beside_20 : decode cX10_beside 20 = .ok (.iconst 3, 1) := by decide +kernel
theorem dX10_beside_21 : decode cX10_beside 21 = .ok (.invokestatic 55, 3) := by decide +kernel
theorem dX10_beside_24 : decode cX10_beside 24 = .ok (.ifCond .eq 14, 3) := by decide +kernel
theorem dX10_beside_27 : decode cX10_beside 27 = .ok (.iload_n 2, 1) := by decide +kernel
theorem dX10_beside_28 : decode cX10_beside 28 = .ok (.iconst 0, 1) := by decide +kernel
theorem dX10_beside_29 : decode cX10_beside 29 = .ok (.sipush 20000, 3) := by decide +kernel
theorem dX10_beside_32 : decode cX10_beside 32 = .ok (.invokestatic 55, 3) := by decide +kernel
theorem dX10_beside_35 : decode cX10_beside 35 = .ok (.ifCond .ne 11, 3) := by decide +kernel
theorem dX10_beside_38 : decode cX10_beside 38 = .ok (.new 59, 3) := by decide +kernel
theorem dX10_beside_41 : decode cX10_beside 41 = .ok (.dup, 1) := by decide +kernel
theorem dX10_beside_42 : decode cX10_beside 42 = .ok (.invokespecial 61, 3) := by decide +kernel
theorem dX10_beside_45 : decode cX10_beside 45 = .ok (.athrow, 1) := by decide +kernel
theorem dX10_beside_46 : decode cX10_beside 46 = .ok (.aload_n 0, 1) := by decide +kernel
theorem dX10_beside_47 : decode cX10_beside 47 = .ok (.getfield 19, 3) := by decide +kernel
theorem dX10_beside_50 : decode cX10_beside 50 = .ok (.getfield 103, 3) := by decide +kernel
theorem dX10_beside_53 : decode cX10_beside 53 = .ok (.aload 5, 2) := by decide +kernel
theorem dX10_beside_55 : decode cX10_beside 55 = .ok (.iload_n 2, 1) := by decide +kernel
theorem dX10_beside_56 : decode cX10_beside 56 = .ok (.invokevirtual 123, 3) := by decide +kernel
theorem dX10_beside_59 : decode cX10_beside 59 = .ok (.pop, 1) := by decide +kernel
theorem dX10_beside_60 : decode cX10_beside 60 = .ok (.aload_n 0, 1) := by decide +kernel
theorem dX10_beside_61 : decode cX10_beside 61 = .ok (.getfield 19, 3) := by decide +kernel
theorem dX10_beside_64 : decode cX10_beside 64 = .ok (.getfield 103, 3) := by decide +kernel
theorem dX10_beside_67 : decode cX10_beside 67 = .ok (.iload_n 3, 1) := by decide +kernel
theorem dX10_beside_68 : decode cX10_beside 68 = .ok (.iload 4, 2) := by decide +kernel
theorem dX10_beside_70 : decode cX10_beside 70 = .ok (.invokevirtual 127, 3) := by decide +kernel
theorem dX10_beside_73 : decode cX10_beside 73 = .ok (.ireturn, 1) := by decide +kernel
theorem dX10_both_0 : decode cX10_both 0 = .ok (.iload_n 1, 1) := by decide +kernel
theorem dX10_both_1 : decode cX10_both 1 = .ok (.iload_n 2, 1) := by decide +kernel
theorem dX10_both_2 : decode cX10_both 2 = .ok (.invokestatic 131, 3) := by decide +kernel
theorem dX10_both_5 : decode cX10_both 5 = .ok (.ireturn, 1) := by decide +kernel
theorem dX10_shown_0 : decode cX10_shown 0 = .ok (.aload_n 0, 1) := by decide +kernel
theorem dX10_shown_1 : decode cX10_shown 1 = .ok (.iload_n 1, 1) := by decide +kernel
theorem dX10_shown_2 : decode cX10_shown 2 = .ok (.invokevirtual 82, 3) := by decide +kernel
theorem dX10_shown_5 : decode cX10_shown 5 = .ok (.astore 5, 2) := by decide +kernel
theorem dX10_shown_7 : decode cX10_shown 7 = .ok (.iload_n 3, 1) := by decide +kernel
theorem dX10_shown_8 : decode cX10_shown 8 = .ok (.iconst 0, 1) := by decide +kernel
theorem dX10_shown_9 : decode cX10_shown 9 = .ok (.bipush 15, 2) := by decide +kernel
theorem dX10_shown_11 : decode cX10_shown 11 = .ok (.invokestatic 55, 3) := by decide +kernel
theorem dX10_shown_14 : decode cX10_shown 14 = .ok (.ifCond .eq 14, 3) := by decide +kernel
theorem dX10_shown_17 : decode cX10_shown 17 = .ok (.iload_n 2, 1) := by decide +kernel
theorem dX10_shown_18 : decode cX10_shown 18 = .ok (.iconst 0, 1) := by decide +kernel
theorem dX10_shown_19 : decode cX10_shown 19 = .ok (.sipush 20000, 3) := by decide +kernel
theorem dX10_shown_22 : decode cX10_shown 22 = .ok (.invokestatic 55, 3) := by decide +kernel
theorem dX10_shown_25 : decode cX10_shown 25 = .ok (.ifCond .ne 11, 3) := by decide +kernel
theorem dX10_shown_28 : decode cX10_shown 28 = .ok (.new 59, 3) := by decide +kernel
theorem dX10_shown_31 : decode cX10_shown 31 = .ok (.dup, 1) := by decide +kernel
theorem dX10_shown_32 : decode cX10_shown 32 = .ok (.invokespecial 61, 3) := by decide +kernel
theorem dX10_shown_35 : decode cX10_shown 35 = .ok (.athrow, 1) := by decide +kernel
theorem dX10_shown_36 : decode cX10_shown 36 = .ok (.aload_n 0, 1) := by decide +kernel
theorem dX10_shown_37 : decode cX10_shown 37 = .ok (.getfield 19, 3) := by decide +kernel
theorem dX10_shown_40 : decode cX10_shown 40 = .ok (.getfield 103, 3) := by decide +kernel
theorem dX10_shown_43 : decode cX10_shown 43 = .ok (.aload 5, 2) := by decide +kernel
theorem dX10_shown_45 : decode cX10_shown 45 = .ok (.iload_n 2, 1) := by decide +kernel
theorem dX10_shown_46 : decode cX10_shown 46 = .ok (.invokevirtual 123, 3) := by decide +kernel
theorem dX10_shown_49 : decode cX10_shown 49 = .ok (.istore 6, 2) := by decide +kernel
theorem dX10_shown_51 : decode cX10_shown 51 = .ok (.aload_n 0, 1) := by decide +kernel
theorem dX10_shown_52 : decode cX10_shown 52 = .ok (.getfield 19, 3) := by decide +kernel
theorem dX10_shown_55 : decode cX10_shown 55 = .ok (.getfield 103, 3) := by decide +kernel
theorem dX10_shown_58 : decode cX10_shown 58 = .ok (.iload_n 3, 1) := by decide +kernel
theorem dX10_shown_59 : decode cX10_shown 59 = .ok (.iload 4, 2) := by decide +kernel
theorem dX10_shown_61 : decode cX10_shown 61 = .ok (.invokevirtual 134, 3) := by decide +kernel
theorem dX10_shown_64 : decode cX10_shown 64 = .ok (.iload 6, 2) := by decide +kernel
theorem dX10_shown_66 : decode cX10_shown 66 = .ok (.if_icmp .ne 7, 3) := by decide +kernel
theorem dX10_shown_69 : decode cX10_shown 69 = .ok (.iconst 1, 1) := by decide +kernel
theorem dX10_shown_70 : decode cX10_shown 70 = .ok (.goto 4, 3) := by decide +kernel
theorem dX10_shown_73 : decode cX10_shown 73 = .ok (.iconst 0, 1) := by decide +kernel
theorem dX10_shown_74 : decode cX10_shown 74 = .ok (.ireturn, 1) := by decide +kernel
theorem dX10_cut_0 : decode cX10_cut 0 = .ok (.aload_n 0, 1) := by decide +kernel
theorem dX10_cut_1 : decode cX10_cut 1 = .ok (.iload_n 1, 1) := by decide +kernel
theorem dX10_cut_2 : decode cX10_cut 2 = .ok (.invokevirtual 82, 3) := by decide +kernel
theorem dX10_cut_5 : decode cX10_cut 5 = .ok (.astore_n 3, 1) := by decide +kernel
theorem dX10_cut_6 : decode cX10_cut 6 = .ok (.iload_n 2, 1) := by decide +kernel
theorem dX10_cut_7 : decode cX10_cut 7 = .ok (.bipush 10, 2) := by decide +kernel
theorem dX10_cut_9 : decode cX10_cut 9 = .ok (.sipush 20000, 3) := by decide +kernel
theorem dX10_cut_12 : decode cX10_cut 12 = .ok (.invokestatic 55, 3) := by decide +kernel
theorem dX10_cut_15 : decode cX10_cut 15 = .ok (.ifCond .ne 11, 3) := by decide +kernel
theorem dX10_cut_18 : decode cX10_cut 18 = .ok (.new 59, 3) := by decide +kernel
theorem dX10_cut_21 : decode cX10_cut 21 = .ok (.dup, 1) := by decide +kernel
theorem dX10_cut_22 : decode cX10_cut 22 = .ok (.invokespecial 61, 3) := by decide +kernel
theorem dX10_cut_25 : decode cX10_cut 25 = .ok (.athrow, 1) := by decide +kernel
theorem dX10_cut_26 : decode cX10_cut 26 = .ok (.aload_n 3, 1) := by decide +kernel
theorem dX10_cut_27 : decode cX10_cut 27 = .ok (.getfield 97, 3) := by decide +kernel
theorem dX10_cut_30 : decode cX10_cut 30 = .ok (.ifCond .le 5, 3) := by decide +kernel
theorem dX10_cut_33 : decode cX10_cut 33 = .ok (.iconst (-1), 1) := by decide +kernel
theorem dX10_cut_34 : decode cX10_cut 34 = .ok (.ireturn, 1) := by decide +kernel
theorem dX10_cut_35 : decode cX10_cut 35 = .ok (.aload_n 0, 1) := by decide +kernel
theorem dX10_cut_36 : decode cX10_cut 36 = .ok (.getfield 19, 3) := by decide +kernel
theorem dX10_cut_39 : decode cX10_cut 39 = .ok (.getfield 103, 3) := by decide +kernel
theorem dX10_cut_42 : decode cX10_cut 42 = .ok (.aload_n 3, 1) := by decide +kernel
theorem dX10_cut_43 : decode cX10_cut 43 = .ok (.invokevirtual 112, 3) := by decide +kernel
theorem dX10_cut_46 : decode cX10_cut 46 = .ok (.istore 4, 2) := by decide +kernel
theorem dX10_cut_48 : decode cX10_cut 48 = .ok (.iload 4, 2) := by decide +kernel
theorem dX10_cut_50 : decode cX10_cut 50 = .ok (.iconst (-1), 1) := by decide +kernel
theorem dX10_cut_51 : decode cX10_cut 51 = .ok (.if_icmp .ne 6, 3) := by decide +kernel
theorem dX10_cut_54 : decode cX10_cut 54 = .ok (.bipush (-2), 2) := by decide +kernel
theorem dX10_cut_56 : decode cX10_cut 56 = .ok (.ireturn, 1) := by decide +kernel
theorem dX10_cut_57 : decode cX10_cut 57 = .ok (.iload 4, 2) := by decide +kernel
theorem dX10_cut_59 : decode cX10_cut 59 = .ok (.iload_n 2, 1) := by decide +kernel
theorem dX10_cut_60 : decode cX10_cut 60 = .ok (.iadd, 1) := by decide +kernel
theorem dX10_cut_61 : decode cX10_cut 61 = .ok (.iconst 1, 1) := by decide +kernel
theorem dX10_cut_62 : decode cX10_cut 62 = .ok (.isub, 1) := by decide +kernel
theorem dX10_cut_63 : decode cX10_cut 63 = .ok (.iload_n 2, 1) := by decide +kernel
theorem dX10_cut_64 : decode cX10_cut 64 = .ok (.idiv, 1) := by decide +kernel
theorem dX10_cut_65 : decode cX10_cut 65 = .ok (.istore 5, 2) := by decide +kernel
theorem dX10_cut_67 : decode cX10_cut 67 = .ok (.iload 5, 2) := by decide +kernel
theorem dX10_cut_69 : decode cX10_cut 69 = .ok (.iconst 1, 1) := by decide +kernel
theorem dX10_cut_70 : decode cX10_cut 70 = .ok (.bipush 20, 2) := by decide +kernel
theorem dX10_cut_72 : decode cX10_cut 72 = .ok (.invokestatic 55, 3) := by decide +kernel
theorem dX10_cut_75 : decode cX10_cut 75 = .ok (.ifCond .ne 6, 3) := by decide +kernel
theorem dX10_cut_78 : decode cX10_cut 78 = .ok (.bipush (-3), 2) := by decide +kernel
theorem dX10_cut_80 : decode cX10_cut 80 = .ok (.ireturn, 1) := by decide +kernel
theorem dX10_cut_81 : decode cX10_cut 81 = .ok (.aload_n 3, 1) := by decide +kernel
theorem dX10_cut_82 : decode cX10_cut 82 = .ok (.iload 5, 2) := by decide +kernel
theorem dX10_cut_84 : decode cX10_cut 84 = .ok (.iload_n 2, 1) := by decide +kernel
theorem dX10_cut_85 : decode cX10_cut 85 = .ok (.iload 4, 2) := by decide +kernel
theorem dX10_cut_87 : decode cX10_cut 87 = .ok (.invokevirtual 137, 3) := by decide +kernel
theorem dX10_cut_90 : decode cX10_cut 90 = .ok (.iload 5, 2) := by decide +kernel
theorem dX10_cut_92 : decode cX10_cut 92 = .ok (.ireturn, 1) := by decide +kernel
theorem dX10_house_0 : decode cX10_house 0 = .ok (.iload_n 1, 1) := by decide +kernel
theorem dX10_house_1 : decode cX10_house 1 = .ok (.iconst 0, 1) := by decide +kernel
theorem dX10_house_2 : decode cX10_house 2 = .ok (.ldc 54, 2) := by decide +kernel
theorem dX10_house_4 : decode cX10_house 4 = .ok (.invokestatic 55, 3) := by decide +kernel
theorem dX10_house_7 : decode cX10_house 7 = .ok (.ifCond .ne 11, 3) := by decide +kernel
theorem dX10_house_10 : decode cX10_house 10 = .ok (.new 59, 3) := by decide +kernel
theorem dX10_house_13 : decode cX10_house 13 = .ok (.dup, 1) := by decide +kernel
theorem dX10_house_14 : decode cX10_house 14 = .ok (.invokespecial 61, 3) := by decide +kernel
theorem dX10_house_17 : decode cX10_house 17 = .ok (.athrow, 1) := by decide +kernel
theorem dX10_house_18 : decode cX10_house 18 = .ok (.aload_n 0, 1) := by decide +kernel
theorem dX10_house_19 : decode cX10_house 19 = .ok (.getfield 141, 3) := by decide +kernel
theorem dX10_house_22 : decode cX10_house 22 = .ok (.bipush 8, 2) := by decide +kernel
theorem dX10_house_24 : decode cX10_house 24 = .ok (.if_icmp .lt 5, 3) := by decide +kernel
theorem dX10_house_27 : decode cX10_house 27 = .ok (.iconst (-1), 1) := by decide +kernel
theorem dX10_house_28 : decode cX10_house 28 = .ok (.ireturn, 1) := by decide +kernel
theorem dX10_house_29 : decode cX10_house 29 = .ok (.aload_n 0, 1) := by decide +kernel
theorem dX10_house_30 : decode cX10_house 30 = .ok (.getfield 19, 3) := by decide +kernel
theorem dX10_house_33 : decode cX10_house 33 = .ok (.getfield 144, 3) := by decide +kernel
theorem dX10_house_36 : decode cX10_house 36 = .ok (.aload_n 0, 1) := by decide +kernel
theorem dX10_house_37 : decode cX10_house 37 = .ok (.getfield 141, 3) := by decide +kernel
theorem dX10_house_40 : decode cX10_house 40 = .ok (.aaload, 1) := by decide +kernel
theorem dX10_house_41 : decode cX10_house 41 = .ok (.iload_n 1, 1) := by decide +kernel
theorem dX10_house_42 : decode cX10_house 42 = .ok (.putfield 148, 3) := by decide +kernel
theorem dX10_house_45 : decode cX10_house 45 = .ok (.aload_n 0, 1) := by decide +kernel
theorem dX10_house_46 : decode cX10_house 46 = .ok (.dup, 1) := by decide +kernel
theorem dX10_house_47 : decode cX10_house 47 = .ok (.getfield 141, 3) := by decide +kernel
theorem dX10_house_50 : decode cX10_house 50 = .ok (.iconst 1, 1) := by decide +kernel
theorem dX10_house_51 : decode cX10_house 51 = .ok (.iadd, 1) := by decide +kernel
theorem dX10_house_52 : decode cX10_house 52 = .ok (.putfield 141, 3) := by decide +kernel
theorem dX10_house_55 : decode cX10_house 55 = .ok (.aload_n 0, 1) := by decide +kernel
theorem dX10_house_56 : decode cX10_house 56 = .ok (.getfield 141, 3) := by decide +kernel
theorem dX10_house_59 : decode cX10_house 59 = .ok (.iconst 1, 1) := by decide +kernel
theorem dX10_house_60 : decode cX10_house 60 = .ok (.isub, 1) := by decide +kernel
theorem dX10_house_61 : decode cX10_house 61 = .ok (.ireturn, 1) := by decide +kernel
theorem dX10_told_0 : decode cX10_told 0 = .ok (.aload_n 0, 1) := by decide +kernel
theorem dX10_told_1 : decode cX10_told 1 = .ok (.iload_n 1, 1) := by decide +kernel
theorem dX10_told_2 : decode cX10_told 2 = .ok (.invokevirtual 153, 3) := by decide +kernel
theorem dX10_told_5 : decode cX10_told 5 = .ok (.astore_n 3, 1) := by decide +kernel
theorem dX10_told_6 : decode cX10_told 6 = .ok (.iload_n 2, 1) := by decide +kernel
theorem dX10_told_7 : decode cX10_told 7 = .ok (.tableswitch 40 0 2 #[25, 30, 35], 25) := by decide +kernel
theorem dX10_told_32 : decode cX10_told 32 = .ok (.aload_n 3, 1) := by decide +kernel
theorem dX10_told_33 : decode cX10_told 33 = .ok (.getfield 148, 3) := by decide +kernel
theorem dX10_told_36 : decode cX10_told 36 = .ok (.ireturn, 1) := by decide +kernel
theorem dX10_told_37 : decode cX10_told 37 = .ok (.aload_n 3, 1) := by decide +kernel
theorem dX10_told_38 : decode cX10_told 38 = .ok (.getfield 157, 3) := by decide +kernel
theorem dX10_told_41 : decode cX10_told 41 = .ok (.ireturn, 1) := by decide +kernel
theorem dX10_told_42 : decode cX10_told 42 = .ok (.aload_n 3, 1) := by decide +kernel
theorem dX10_told_43 : decode cX10_told 43 = .ok (.getfield 160, 3) := by decide +kernel
theorem dX10_told_46 : decode cX10_told 46 = .ok (.ireturn, 1) := by decide +kernel
theorem dX10_told_47 : decode cX10_told 47 = .ok (.new 59, 3) := by decide +kernel
theorem dX10_told_50 : decode cX10_told 50 = .ok (.dup, 1) := by decide +kernel
theorem dX10_told_51 : decode cX10_told 51 = .ok (.invokespecial 61, 3) := by decide +kernel
theorem dX10_told_54 : decode cX10_told 54 = .ok (.athrow, 1) := by decide +kernel
theorem dX10_rule_0 : decode cX10_rule 0 = .ok (.iload_n 1, 1) := by decide +kernel
theorem dX10_rule_1 : decode cX10_rule 1 = .ok (.iconst 0, 1) := by decide +kernel
theorem dX10_rule_2 : decode cX10_rule 2 = .ok (.iconst 2, 1) := by decide +kernel
theorem dX10_rule_3 : decode cX10_rule 3 = .ok (.invokestatic 55, 3) := by decide +kernel
theorem dX10_rule_6 : decode cX10_rule 6 = .ok (.ifCond .eq 22, 3) := by decide +kernel
theorem dX10_rule_9 : decode cX10_rule 9 = .ok (.iload_n 2, 1) := by decide +kernel
theorem dX10_rule_10 : decode cX10_rule 10 = .ok (.iload_n 1, 1) := by decide +kernel
theorem dX10_rule_11 : decode cX10_rule 11 = .ok (.iconst 2, 1) := by decide +kernel
theorem dX10_rule_12 : decode cX10_rule 12 = .ok (.if_icmp .ne 7, 3) := by decide +kernel
theorem dX10_rule_15 : decode cX10_rule 15 = .ok (.iconst 0, 1) := by decide +kernel
theorem dX10_rule_16 : decode cX10_rule 16 = .ok (.goto 4, 3) := by decide +kernel
theorem dX10_rule_19 : decode cX10_rule 19 = .ok (.iconst 1, 1) := by decide +kernel
theorem dX10_rule_20 : decode cX10_rule 20 = .ok (.bipush 100, 2) := by decide +kernel
theorem dX10_rule_22 : decode cX10_rule 22 = .ok (.invokestatic 55, 3) := by decide +kernel
theorem dX10_rule_25 : decode cX10_rule 25 = .ok (.ifCond .ne 11, 3) := by decide +kernel
theorem dX10_rule_28 : decode cX10_rule 28 = .ok (.new 59, 3) := by decide +kernel
theorem dX10_rule_31 : decode cX10_rule 31 = .ok (.dup, 1) := by decide +kernel
theorem dX10_rule_32 : decode cX10_rule 32 = .ok (.invokespecial 61, 3) := by decide +kernel
theorem dX10_rule_35 : decode cX10_rule 35 = .ok (.athrow, 1) := by decide +kernel
theorem dX10_rule_36 : decode cX10_rule 36 = .ok (.aload_n 0, 1) := by decide +kernel
theorem dX10_rule_37 : decode cX10_rule 37 = .ok (.getfield 19, 3) := by decide +kernel
theorem dX10_rule_40 : decode cX10_rule 40 = .ok (.getfield 163, 3) := by decide +kernel
theorem dX10_rule_43 : decode cX10_rule 43 = .ok (.iload_n 1, 1) := by decide +kernel
theorem dX10_rule_44 : decode cX10_rule 44 = .ok (.iaload, 1) := by decide +kernel
theorem dX10_rule_45 : decode cX10_rule 45 = .ok (.istore_n 3, 1) := by decide +kernel
theorem dX10_rule_46 : decode cX10_rule 46 = .ok (.aload_n 0, 1) := by decide +kernel
theorem dX10_rule_47 : decode cX10_rule 47 = .ok (.getfield 19, 3) := by decide +kernel
theorem dX10_rule_50 : decode cX10_rule 50 = .ok (.getfield 163, 3) := by decide +kernel
theorem dX10_rule_53 : decode cX10_rule 53 = .ok (.iload_n 1, 1) := by decide +kernel
theorem dX10_rule_54 : decode cX10_rule 54 = .ok (.iload_n 2, 1) := by decide +kernel
theorem dX10_rule_55 : decode cX10_rule 55 = .ok (.iastore, 1) := by decide +kernel
theorem dX10_rule_56 : decode cX10_rule 56 = .ok (.iload_n 3, 1) := by decide +kernel
theorem dX10_rule_57 : decode cX10_rule 57 = .ok (.ireturn, 1) := by decide +kernel
theorem dX10_give_0 : decode cX10_give 0 = .ok (.aload_n 0, 1) := by decide +kernel
theorem dX10_give_1 : decode cX10_give 1 = .ok (.iload_n 1, 1) := by decide +kernel
theorem dX10_give_2 : decode cX10_give 2 = .ok (.invokevirtual 82, 3) := by decide +kernel
theorem dX10_give_5 : decode cX10_give 5 = .ok (.astore 7, 2) := by decide +kernel
theorem dX10_give_7 : decode cX10_give 7 = .ok (.aload_n 0, 1) := by decide +kernel
theorem dX10_give_8 : decode cX10_give 8 = .ok (.aload 7, 2) := by decide +kernel
theorem dX10_give_10 : decode cX10_give 10 = .ok (.iload_n 2, 1) := by decide +kernel
theorem dX10_give_11 : decode cX10_give 11 = .ok (.invokevirtual 166, 3) := by decide +kernel
theorem dX10_give_14 : decode cX10_give 14 = .ok (.astore 8, 2) := by decide +kernel
theorem dX10_give_16 : decode cX10_give 16 = .ok (.aload_n 0, 1) := by decide +kernel
theorem dX10_give_17 : decode cX10_give 17 = .ok (.iload_n 3, 1) := by decide +kernel
theorem dX10_give_18 : decode cX10_give 18 = .ok (.invokevirtual 153, 3) := by decide +kernel
theorem dX10_give_21 : decode cX10_give 21 = .ok (.astore 9, 2) := by decide +kernel
theorem dX10_give_23 : decode cX10_give 23 = .ok (.iload 4, 2) := by decide +kernel
theorem dX10_give_25 : decode cX10_give 25 = .ok (.iconst 0, 1) := by decide +kernel
theorem dX10_give_26 : decode cX10_give 26 = .ok (.ldc 54, 2) := by decide +kernel
theorem dX10_give_28 : decode cX10_give 28 = .ok (.invokestatic 55, 3) := by decide +kernel
theorem dX10_give_31 : decode cX10_give 31 = .ok (.ifCond .eq 26, 3) := by decide +kernel
theorem dX10_give_34 : decode cX10_give 34 = .ok (.iload 5, 2) := by decide +kernel
theorem dX10_give_36 : decode cX10_give 36 = .ok (.iconst 0, 1) := by decide +kernel
theorem dX10_give_37 : decode cX10_give 37 = .ok (.ldc 54, 2) := by decide +kernel
theorem dX10_give_39 : decode cX10_give 39 = .ok (.invokestatic 55, 3) := by decide +kernel
theorem dX10_give_42 : decode cX10_give 42 = .ok (.ifCond .eq 15, 3) := by decide +kernel
theorem dX10_give_45 : decode cX10_give 45 = .ok (.iload 6, 2) := by decide +kernel
theorem dX10_give_47 : decode cX10_give 47 = .ok (.iconst 1, 1) := by decide +kernel
theorem dX10_give_48 : decode cX10_give 48 = .ok (.sipush 1000, 3) := by decide +kernel
theorem dX10_give_51 : decode cX10_give 51 = .ok (.invokestatic 55, 3) := by decide +kernel
theorem dX10_give_54 : decode cX10_give 54 = .ok (.ifCond .ne 11, 3) := by decide +kernel
theorem dX10_give_57 : decode cX10_give 57 = .ok (.new 59, 3) := by decide +kernel
theorem dX10_give_60 : decode cX10_give 60 = .ok (.dup, 1) := by decide +kernel
theorem dX10_give_61 : decode cX10_give 61 = .ok (.invokespecial 61, 3) := by decide +kernel
theorem dX10_give_64 : decode cX10_give 64 = .ok (.athrow, 1) := by decide +kernel
theorem dX10_give_65 : decode cX10_give 65 = .ok (.aload 8, 2) := by decide +kernel
theorem dX10_give_67 : decode cX10_give 67 = .ok (.getfield 170, 3) := by decide +kernel
theorem dX10_give_70 : decode cX10_give 70 = .ok (.ifCond .eq 5, 3) := by decide +kernel
theorem dX10_give_73 : decode cX10_give 73 = .ok (.iconst (-1), 1) := by decide +kernel
theorem dX10_give_74 : decode cX10_give 74 = .ok (.ireturn, 1) := by decide +kernel
theorem dX10_give_75 : decode cX10_give 75 = .ok (.aload 7, 2) := by decide +kernel
theorem dX10_give_77 : decode cX10_give 77 = .ok (.getfield 175, 3) := by decide +kernel
theorem dX10_give_80 : decode cX10_give 80 = .ok (.iload 4, 2) := by decide +kernel
theorem dX10_give_82 : decode cX10_give 82 = .ok (.if_icmp .ge 6, 3) := by decide +kernel
theorem dX10_give_85 : decode cX10_give 85 = .ok (.bipush (-2), 2) := by decide +kernel
theorem dX10_give_87 : decode cX10_give 87 = .ok (.ireturn, 1) := by decide +kernel
theorem dX10_give_88 : decode cX10_give 88 = .ok (.aload 9, 2) := by decide +kernel
theorem dX10_give_90 : decode cX10_give 90 = .ok (.getfield 148, 3) := by decide +kernel
theorem dX10_give_93 : decode cX10_give 93 = .ok (.iload 5, 2) := by decide +kernel
theorem dX10_give_95 : decode cX10_give 95 = .ok (.if_icmp .ge 6, 3) := by decide +kernel
theorem dX10_give_98 : decode cX10_give 98 = .ok (.bipush (-3), 2) := by decide +kernel
theorem dX10_give_100 : decode cX10_give 100 = .ok (.ireturn, 1) := by decide +kernel
theorem dX10_give_101 : decode cX10_give 101 = .ok (.aload 7, 2) := by decide +kernel
theorem dX10_give_103 : decode cX10_give 103 = .ok (.dup, 1) := by decide +kernel
theorem dX10_give_104 : decode cX10_give 104 = .ok (.getfield 175, 3) := by decide +kernel
theorem dX10_give_107 : decode cX10_give 107 = .ok (.iload 4, 2) := by decide +kernel
theorem dX10_give_109 : decode cX10_give 109 = .ok (.isub, 1) := by decide +kernel
theorem dX10_give_110 : decode cX10_give 110 = .ok (.putfield 175, 3) := by decide +kernel
theorem dX10_give_113 : decode cX10_give 113 = .ok (.aload 9, 2) := by decide +kernel
theorem dX10_give_115 : decode cX10_give 115 = .ok (.dup, 1) := by decide +kernel
theorem dX10_give_116 : decode cX10_give 116 = .ok (.getfield 148, 3) := by decide +kernel
theorem dX10_give_119 : decode cX10_give 119 = .ok (.iload 5, 2) := by decide +kernel
theorem dX10_give_121 : decode cX10_give 121 = .ok (.isub, 1) := by decide +kernel
theorem dX10_give_122 : decode cX10_give 122 = .ok (.putfield 148, 3) := by decide +kernel
theorem dX10_give_125 : decode cX10_give 125 = .ok (.aload 8, 2) := by decide +kernel
theorem dX10_give_127 : decode cX10_give 127 = .ok (.iload_n 3, 1) := by decide +kernel
theorem dX10_give_128 : decode cX10_give 128 = .ok (.iload 4, 2) := by decide +kernel
theorem dX10_give_130 : decode cX10_give 130 = .ok (.iload 5, 2) := by decide +kernel
theorem dX10_give_132 : decode cX10_give 132 = .ok (.aload_n 0, 1) := by decide +kernel
theorem dX10_give_133 : decode cX10_give 133 = .ok (.getfield 19, 3) := by decide +kernel
theorem dX10_give_136 : decode cX10_give 136 = .ok (.getfield 176, 3) := by decide +kernel
theorem dX10_give_139 : decode cX10_give 139 = .ok (.iload 6, 2) := by decide +kernel
theorem dX10_give_141 : decode cX10_give 141 = .ok (.iadd, 1) := by decide +kernel
theorem dX10_give_142 : decode cX10_give 142 = .ok (.invokevirtual 179, 3) := by decide +kernel
theorem dX10_give_145 : decode cX10_give 145 = .ok (.aload_n 0, 1) := by decide +kernel
theorem dX10_give_146 : decode cX10_give 146 = .ok (.dup, 1) := by decide +kernel
theorem dX10_give_147 : decode cX10_give 147 = .ok (.getfield 183, 3) := by decide +kernel
theorem dX10_give_150 : decode cX10_give 150 = .ok (.aload 8, 2) := by decide +kernel
theorem dX10_give_152 : decode cX10_give 152 = .ok (.invokevirtual 186, 3) := by decide +kernel
theorem dX10_give_155 : decode cX10_give 155 = .ok (.isub, 1) := by decide +kernel
theorem dX10_give_156 : decode cX10_give 156 = .ok (.putfield 183, 3) := by decide +kernel
theorem dX10_give_159 : decode cX10_give 159 = .ok (.iconst 1, 1) := by decide +kernel
theorem dX10_give_160 : decode cX10_give 160 = .ok (.ireturn, 1) := by decide +kernel
theorem dX10_claim_0 : decode cX10_claim 0 = .ok (.aload_n 0, 1) := by decide +kernel
theorem dX10_claim_1 : decode cX10_claim 1 = .ok (.aload_n 0, 1) := by decide +kernel
theorem dX10_claim_2 : decode cX10_claim 2 = .ok (.iload_n 1, 1) := by decide +kernel
theorem dX10_claim_3 : decode cX10_claim 3 = .ok (.invokevirtual 82, 3) := by decide +kernel
theorem dX10_claim_6 : decode cX10_claim 6 = .ok (.iload_n 2, 1) := by decide +kernel
theorem dX10_claim_7 : decode cX10_claim 7 = .ok (.invokevirtual 166, 3) := by decide +kernel
theorem dX10_claim_10 : decode cX10_claim 10 = .ok (.astore 4, 2) := by decide +kernel
theorem dX10_claim_12 : decode cX10_claim 12 = .ok (.aload 4, 2) := by decide +kernel
theorem dX10_claim_14 : decode cX10_claim 14 = .ok (.getfield 170, 3) := by decide +kernel
theorem dX10_claim_17 : decode cX10_claim 17 = .ok (.iconst 1, 1) := by decide +kernel
theorem dX10_claim_18 : decode cX10_claim 18 = .ok (.if_icmp .eq 5, 3) := by decide +kernel
theorem dX10_claim_21 : decode cX10_claim 21 = .ok (.iconst (-1), 1) := by decide +kernel
theorem dX10_claim_22 : decode cX10_claim 22 = .ok (.ireturn, 1) := by decide +kernel
theorem dX10_claim_23 : decode cX10_claim 23 = .ok (.aload 4, 2) := by decide +kernel
theorem dX10_claim_25 : decode cX10_claim 25 = .ok (.iconst 2, 1) := by decide +kernel
theorem dX10_claim_26 : decode cX10_claim 26 = .ok (.putfield 170, 3) := by decide +kernel
theorem dX10_claim_29 : decode cX10_claim 29 = .ok (.aload 4, 2) := by decide +kernel
theorem dX10_claim_31 : decode cX10_claim 31 = .ok (.iload_n 3, 1) := by decide +kernel
theorem dX10_claim_32 : decode cX10_claim 32 = .ok (.putfield 190, 3) := by decide +kernel
theorem dX10_claim_35 : decode cX10_claim 35 = .ok (.aload 4, 2) := by decide +kernel
theorem dX10_claim_37 : decode cX10_claim 37 = .ok (.aload_n 0, 1) := by decide +kernel
theorem dX10_claim_38 : decode cX10_claim 38 = .ok (.getfield 19, 3) := by decide +kernel
theorem dX10_claim_41 : decode cX10_claim 41 = .ok (.getfield 176, 3) := by decide +kernel
theorem dX10_claim_44 : decode cX10_claim 44 = .ok (.putfield 193, 3) := by decide +kernel
theorem dX10_claim_47 : decode cX10_claim 47 = .ok (.iconst 1, 1) := by decide +kernel
theorem dX10_claim_48 : decode cX10_claim 48 = .ok (.ireturn, 1) := by decide +kernel
theorem dX10_doubt_0 : decode cX10_doubt 0 = .ok (.aload_n 0, 1) := by decide +kernel
theorem dX10_doubt_1 : decode cX10_doubt 1 = .ok (.iload_n 1, 1) := by decide +kernel
theorem dX10_doubt_2 : decode cX10_doubt 2 = .ok (.invokevirtual 82, 3) := by decide +kernel
theorem dX10_doubt_5 : decode cX10_doubt 5 = .ok (.astore 5, 2) := by decide +kernel
theorem dX10_doubt_7 : decode cX10_doubt 7 = .ok (.aload_n 0, 1) := by decide +kernel
theorem dX10_doubt_8 : decode cX10_doubt 8 = .ok (.aload 5, 2) := by decide +kernel
theorem dX10_doubt_10 : decode cX10_doubt 10 = .ok (.iload_n 2, 1) := by decide +kernel
theorem dX10_doubt_11 : decode cX10_doubt 11 = .ok (.invokevirtual 166, 3) := by decide +kernel
theorem dX10_doubt_14 : decode cX10_doubt 14 = .ok (.astore 6, 2) := by decide +kernel
theorem dX10_doubt_16 : decode cX10_doubt 16 = .ok (.aload_n 0, 1) := by decide +kernel
theorem dX10_doubt_17 : decode cX10_doubt 17 = .ok (.iload_n 3, 1) := by decide +kernel
theorem dX10_doubt_18 : decode cX10_doubt 18 = .ok (.invokevirtual 153, 3) := by decide +kernel
theorem dX10_doubt_21 : decode cX10_doubt 21 = .ok (.astore 7, 2) := by decide +kernel
theorem dX10_doubt_23 : decode cX10_doubt 23 = .ok (.aload 6, 2) := by decide +kernel
theorem dX10_doubt_25 : decode cX10_doubt 25 = .ok (.getfield 170, 3) := by decide +kernel
theorem dX10_doubt_28 : decode cX10_doubt 28 = .ok (.iconst 2, 1) := by decide +kernel
theorem dX10_doubt_29 : decode cX10_doubt 29 = .ok (.if_icmp .eq 5, 3) := by decide +kernel
theorem dX10_doubt_32 : decode cX10_doubt 32 = .ok (.iconst (-1), 1) := by decide +kernel
theorem dX10_doubt_33 : decode cX10_doubt 33 = .ok (.ireturn, 1) := by decide +kernel
theorem dX10_doubt_34 : decode cX10_doubt 34 = .ok (.aload 6, 2) := by decide +kernel
theorem dX10_doubt_36 : decode cX10_doubt 36 = .ok (.getfield 196, 3) := by decide +kernel
theorem dX10_doubt_39 : decode cX10_doubt 39 = .ok (.iload_n 3, 1) := by decide +kernel
theorem dX10_doubt_40 : decode cX10_doubt 40 = .ok (.if_icmp .ne 6, 3) := by decide +kernel
theorem dX10_doubt_43 : decode cX10_doubt 43 = .ok (.bipush (-2), 2) := by decide +kernel
theorem dX10_doubt_45 : decode cX10_doubt 45 = .ok (.ireturn, 1) := by decide +kernel
theorem dX10_doubt_46 : decode cX10_doubt 46 = .ok (.aload 6, 2) := by decide +kernel
theorem dX10_doubt_48 : decode cX10_doubt 48 = .ok (.getfield 190, 3) := by decide +kernel
theorem dX10_doubt_51 : decode cX10_doubt 51 = .ok (.iload 4, 2) := by decide +kernel
theorem dX10_doubt_53 : decode cX10_doubt 53 = .ok (.if_icmp .ne 6, 3) := by decide +kernel
theorem dX10_doubt_56 : decode cX10_doubt 56 = .ok (.bipush (-3), 2) := by decide +kernel
theorem dX10_doubt_58 : decode cX10_doubt 58 = .ok (.ireturn, 1) := by decide +kernel
theorem dX10_doubt_59 : decode cX10_doubt 59 = .ok (.aload 5, 2) := by decide +kernel
theorem dX10_doubt_61 : decode cX10_doubt 61 = .ok (.iload_n 2, 1) := by decide +kernel
theorem dX10_doubt_62 : decode cX10_doubt 62 = .ok (.invokevirtual 199, 3) := by decide +kernel
theorem dX10_doubt_65 : decode cX10_doubt 65 = .ok (.ifCond .ne 6, 3) := by decide +kernel
theorem dX10_doubt_68 : decode cX10_doubt 68 = .ok (.bipush (-4), 2) := by decide +kernel
theorem dX10_doubt_70 : decode cX10_doubt 70 = .ok (.ireturn, 1) := by decide +kernel
theorem dX10_doubt_71 : decode cX10_doubt 71 = .ok (.aload 7, 2) := by decide +kernel
theorem dX10_doubt_73 : decode cX10_doubt 73 = .ok (.getfield 148, 3) := by decide +kernel
theorem dX10_doubt_76 : decode cX10_doubt 76 = .ok (.aload 6, 2) := by decide +kernel
theorem dX10_doubt_78 : decode cX10_doubt 78 = .ok (.getfield 202, 3) := by decide +kernel
theorem dX10_doubt_81 : decode cX10_doubt 81 = .ok (.if_icmp .ge 6, 3) := by decide +kernel
theorem dX10_doubt_84 : decode cX10_doubt 84 = .ok (.bipush (-5), 2) := by decide +kernel
theorem dX10_doubt_86 : decode cX10_doubt 86 = .ok (.ireturn, 1) := by decide +kernel
theorem dX10_doubt_87 : decode cX10_doubt 87 = .ok (.aload 7, 2) := by decide +kernel
theorem dX10_doubt_89 : decode cX10_doubt 89 = .ok (.dup, 1) := by decide +kernel
theorem dX10_doubt_90 : decode cX10_doubt 90 = .ok (.getfield 148, 3) := by decide +kernel
theorem dX10_doubt_93 : decode cX10_doubt 93 = .ok (.aload 6, 2) := by decide +kernel
theorem dX10_doubt_95 : decode cX10_doubt 95 = .ok (.getfield 202, 3) := by decide +kernel
theorem dX10_doubt_98 : decode cX10_doubt 98 = .ok (.isub, 1) := by decide +kernel
theorem dX10_doubt_99 : decode cX10_doubt 99 = .ok (.putfield 148, 3) := by decide +kernel
theorem dX10_doubt_102 : decode cX10_doubt 102 = .ok (.aload_n 0, 1) := by decide +kernel
theorem dX10_doubt_103 : decode cX10_doubt 103 = .ok (.getfield 19, 3) := by decide +kernel
theorem dX10_doubt_106 : decode cX10_doubt 106 = .ok (.aload 5, 2) := by decide +kernel
theorem dX10_doubt_108 : decode cX10_doubt 108 = .ok (.iload_n 2, 1) := by decide +kernel
theorem dX10_doubt_109 : decode cX10_doubt 109 = .ok (.iload_n 3, 1) := by decide +kernel
theorem dX10_doubt_110 : decode cX10_doubt 110 = .ok (.iload 4, 2) := by decide +kernel
theorem dX10_doubt_112 : decode cX10_doubt 112 = .ok (.invokevirtual 205, 3) := by decide +kernel
theorem dX10_doubt_115 : decode cX10_doubt 115 = .ok (.aload_n 0, 1) := by decide +kernel
theorem dX10_doubt_116 : decode cX10_doubt 116 = .ok (.getfield 19, 3) := by decide +kernel
theorem dX10_doubt_119 : decode cX10_doubt 119 = .ok (.aload 5, 2) := by decide +kernel
theorem dX10_doubt_121 : decode cX10_doubt 121 = .ok (.iload_n 2, 1) := by decide +kernel
theorem dX10_doubt_122 : decode cX10_doubt 122 = .ok (.invokevirtual 209, 3) := by decide +kernel
theorem dX10_doubt_125 : decode cX10_doubt 125 = .ok (.pop, 1) := by decide +kernel
theorem dX10_doubt_126 : decode cX10_doubt 126 = .ok (.iconst 1, 1) := by decide +kernel
theorem dX10_doubt_127 : decode cX10_doubt 127 = .ok (.ireturn, 1) := by decide +kernel
theorem dX10_piece_0 : decode cX10_piece 0 = .ok (.aload_n 0, 1) := by decide +kernel
theorem dX10_piece_1 : decode cX10_piece 1 = .ok (.aload_n 0, 1) := by decide +kernel
theorem dX10_piece_2 : decode cX10_piece 2 = .ok (.iload_n 1, 1) := by decide +kernel
theorem dX10_piece_3 : decode cX10_piece 3 = .ok (.invokevirtual 82, 3) := by decide +kernel
theorem dX10_piece_6 : decode cX10_piece 6 = .ok (.iload_n 2, 1) := by decide +kernel
theorem dX10_piece_7 : decode cX10_piece 7 = .ok (.invokevirtual 166, 3) := by decide +kernel
theorem dX10_piece_10 : decode cX10_piece 10 = .ok (.astore 4, 2) := by decide +kernel
theorem dX10_piece_12 : decode cX10_piece 12 = .ok (.aload 4, 2) := by decide +kernel
theorem dX10_piece_14 : decode cX10_piece 14 = .ok (.getfield 170, 3) := by decide +kernel
theorem dX10_piece_17 : decode cX10_piece 17 = .ok (.iconst 3, 1) := by decide +kernel
theorem dX10_piece_18 : decode cX10_piece 18 = .ok (.if_icmp .ne 7, 3) := by decide +kernel
theorem dX10_piece_21 : decode cX10_piece 21 = .ok (.iconst 1, 1) := by decide +kernel
theorem dX10_piece_22 : decode cX10_piece 22 = .ok (.goto 4, 3) := by decide +kernel
theorem dX10_piece_25 : decode cX10_piece 25 = .ok (.iconst 0, 1) := by decide +kernel
theorem dX10_piece_26 : decode cX10_piece 26 = .ok (.istore 5, 2) := by decide +kernel
theorem dX10_piece_28 : decode cX10_piece 28 = .ok (.iload_n 3, 1) := by decide +kernel
theorem dX10_piece_29 : decode cX10_piece 29 = .ok (.tableswitch 163 0 9 #[55, 61, 67, 73, 79, 97, 115, 133, 151, 157], 55) := by decide +kernel
theorem dX10_piece_84 : decode cX10_piece 84 = .ok (.aload 4, 2) := by decide +kernel
theorem dX10_piece_86 : decode cX10_piece 86 = .ok (.getfield 170, 3) := by decide +kernel
theorem dX10_piece_89 : decode cX10_piece 89 = .ok (.ireturn, 1) := by decide +kernel
theorem dX10_piece_90 : decode cX10_piece 90 = .ok (.aload 4, 2) := by decide +kernel
theorem dX10_piece_92 : decode cX10_piece 92 = .ok (.getfield 196, 3) := by decide +kernel
theorem dX10_piece_95 : decode cX10_piece 95 = .ok (.ireturn, 1) := by decide +kernel
theorem dX10_piece_96 : decode cX10_piece 96 = .ok (.aload 4, 2) := by decide +kernel
theorem dX10_piece_98 : decode cX10_piece 98 = .ok (.getfield 213, 3) := by decide +kernel
theorem dX10_piece_101 : decode cX10_piece 101 = .ok (.ireturn, 1) := by decide +kernel
theorem dX10_piece_102 : decode cX10_piece 102 = .ok (.aload 4, 2) := by decide +kernel
theorem dX10_piece_104 : decode cX10_piece 104 = .ok (.getfield 216, 3) := by decide +kernel
theorem dX10_piece_107 : decode cX10_piece 107 = .ok (.ireturn, 1) := by decide +kernel
theorem dX10_piece_108 : decode cX10_piece 108 = .ok (.iload 5, 2) := by decide +kernel
theorem dX10_piece_110 : decode cX10_piece 110 = .ok (.ifCond .eq 14, 3) := by decide +kernel
theorem dX10_piece_113 : decode cX10_piece 113 = .ok (.aload 4, 2) := by decide +kernel
theorem dX10_piece_115 : decode cX10_piece 115 = .ok (.getfield 219, 3) := by decide +kernel
theorem dX10_piece_118 : decode cX10_piece 118 = .ok (.getfield 223, 3) := by decide +kernel
theorem dX10_piece_121 : decode cX10_piece 121 = .ok (.goto 4, 3) := by decide +kernel
theorem dX10_piece_124 : decode cX10_piece 124 = .ok (.iconst (-1), 1) := by decide +kernel
theorem dX10_piece_125 : decode cX10_piece 125 = .ok (.ireturn, 1) := by decide +kernel
theorem dX10_piece_126 : decode cX10_piece 126 = .ok (.iload 5, 2) := by decide +kernel
theorem dX10_piece_128 : decode cX10_piece 128 = .ok (.ifCond .eq 14, 3) := by decide +kernel
theorem dX10_piece_131 : decode cX10_piece 131 = .ok (.aload 4, 2) := by decide +kernel
theorem dX10_piece_133 : decode cX10_piece 133 = .ok (.getfield 219, 3) := by decide +kernel
theorem dX10_piece_136 : decode cX10_piece 136 = .ok (.getfield 228, 3) := by decide +kernel
theorem dX10_piece_139 : decode cX10_piece 139 = .ok (.goto 4, 3) := by decide +kernel
theorem dX10_piece_142 : decode cX10_piece 142 = .ok (.iconst (-1), 1) := by decide +kernel
theorem dX10_piece_143 : decode cX10_piece 143 = .ok (.ireturn, 1) := by decide +kernel
theorem dX10_piece_144 : decode cX10_piece 144 = .ok (.iload 5, 2) := by decide +kernel
theorem dX10_piece_146 : decode cX10_piece 146 = .ok (.ifCond .eq 14, 3) := by decide +kernel
theorem dX10_piece_149 : decode cX10_piece 149 = .ok (.aload 4, 2) := by decide +kernel
theorem dX10_piece_151 : decode cX10_piece 151 = .ok (.getfield 219, 3) := by decide +kernel
theorem dX10_piece_154 : decode cX10_piece 154 = .ok (.getfield 231, 3) := by decide +kernel
theorem dX10_piece_157 : decode cX10_piece 157 = .ok (.goto 4, 3) := by decide +kernel
theorem dX10_piece_160 : decode cX10_piece 160 = .ok (.iconst (-1), 1) := by decide +kernel
theorem dX10_piece_161 : decode cX10_piece 161 = .ok (.ireturn, 1) := by decide +kernel
theorem dX10_piece_162 : decode cX10_piece 162 = .ok (.iload 5, 2) := by decide +kernel
theorem dX10_piece_164 : decode cX10_piece 164 = .ok (.ifCond .eq 14, 3) := by decide +kernel
theorem dX10_piece_167 : decode cX10_piece 167 = .ok (.aload 4, 2) := by decide +kernel
theorem dX10_piece_169 : decode cX10_piece 169 = .ok (.getfield 219, 3) := by decide +kernel
theorem dX10_piece_172 : decode cX10_piece 172 = .ok (.invokevirtual 234, 3) := by decide +kernel
theorem dX10_piece_175 : decode cX10_piece 175 = .ok (.goto 4, 3) := by decide +kernel
theorem dX10_piece_178 : decode cX10_piece 178 = .ok (.iconst (-1), 1) := by decide +kernel
theorem dX10_piece_179 : decode cX10_piece 179 = .ok (.ireturn, 1) := by decide +kernel
theorem dX10_piece_180 : decode cX10_piece 180 = .ok (.aload 4, 2) := by decide +kernel
theorem dX10_piece_182 : decode cX10_piece 182 = .ok (.getfield 237, 3) := by decide +kernel
theorem dX10_piece_185 : decode cX10_piece 185 = .ok (.ireturn, 1) := by decide +kernel
theorem dX10_piece_186 : decode cX10_piece 186 = .ok (.aload 4, 2) := by decide +kernel
theorem dX10_piece_188 : decode cX10_piece 188 = .ok (.getfield 190, 3) := by decide +kernel
theorem dX10_piece_191 : decode cX10_piece 191 = .ok (.ireturn, 1) := by decide +kernel
theorem dX10_piece_192 : decode cX10_piece 192 = .ok (.new 59, 3) := by decide +kernel
theorem dX10_piece_195 : decode cX10_piece 195 = .ok (.dup, 1) := by decide +kernel
theorem dX10_piece_196 : decode cX10_piece 196 = .ok (.invokespecial 61, 3) := by decide +kernel
theorem dX10_piece_199 : decode cX10_piece 199 = .ok (.athrow, 1) := by decide +kernel
theorem dX10_answer_0 : decode cX10_answer 0 = .ok (.aload_n 0, 1) := by decide +kernel
theorem dX10_answer_1 : decode cX10_answer 1 = .ok (.iload_n 1, 1) := by decide +kernel
theorem dX10_answer_2 : decode cX10_answer 2 = .ok (.invokevirtual 82, 3) := by decide +kernel
theorem dX10_answer_5 : decode cX10_answer 5 = .ok (.astore 5, 2) := by decide +kernel
theorem dX10_answer_7 : decode cX10_answer 7 = .ok (.aload_n 0, 1) := by decide +kernel
theorem dX10_answer_8 : decode cX10_answer 8 = .ok (.aload 5, 2) := by decide +kernel
theorem dX10_answer_10 : decode cX10_answer 10 = .ok (.iload_n 2, 1) := by decide +kernel
theorem dX10_answer_11 : decode cX10_answer 11 = .ok (.invokevirtual 166, 3) := by decide +kernel
theorem dX10_answer_14 : decode cX10_answer 14 = .ok (.astore 6, 2) := by decide +kernel
theorem dX10_answer_16 : decode cX10_answer 16 = .ok (.aload 6, 2) := by decide +kernel
theorem dX10_answer_18 : decode cX10_answer 18 = .ok (.getfield 170, 3) := by decide +kernel
theorem dX10_answer_21 : decode cX10_answer 21 = .ok (.iconst 3, 1) := by decide +kernel
theorem dX10_answer_22 : decode cX10_answer 22 = .ok (.if_icmp .eq 5, 3) := by decide +kernel
theorem dX10_answer_25 : decode cX10_answer 25 = .ok (.iconst (-1), 1) := by decide +kernel
theorem dX10_answer_26 : decode cX10_answer 26 = .ok (.ireturn, 1) := by decide +kernel
theorem dX10_answer_27 : decode cX10_answer 27 = .ok (.aload 6, 2) := by decide +kernel
theorem dX10_answer_29 : decode cX10_answer 29 = .ok (.getfield 219, 3) := by decide +kernel
theorem dX10_answer_32 : decode cX10_answer 32 = .ok (.iload_n 3, 1) := by decide +kernel
theorem dX10_answer_33 : decode cX10_answer 33 = .ok (.invokevirtual 240, 3) := by decide +kernel
theorem dX10_answer_36 : decode cX10_answer 36 = .ok (.ifCond .eq 6, 3) := by decide +kernel
theorem dX10_answer_39 : decode cX10_answer 39 = .ok (.bipush (-2), 2) := by decide +kernel
theorem dX10_answer_41 : decode cX10_answer 41 = .ok (.ireturn, 1) := by decide +kernel
theorem dX10_answer_42 : decode cX10_answer 42 = .ok (.aload 6, 2) := by decide +kernel
theorem dX10_answer_44 : decode cX10_answer 44 = .ok (.getfield 219, 3) := by decide +kernel
theorem dX10_answer_47 : decode cX10_answer 47 = .ok (.iload_n 3, 1) := by decide +kernel
theorem dX10_answer_48 : decode cX10_answer 48 = .ok (.iload 4, 2) := by decide +kernel
theorem dX10_answer_50 : decode cX10_answer 50 = .ok (.aload_n 0, 1) := by decide +kernel
theorem dX10_answer_51 : decode cX10_answer 51 = .ok (.getfield 19, 3) := by decide +kernel
theorem dX10_answer_54 : decode cX10_answer 54 = .ok (.getfield 176, 3) := by decide +kernel
theorem dX10_answer_57 : decode cX10_answer 57 = .ok (.invokevirtual 244, 3) := by decide +kernel
theorem dX10_answer_60 : decode cX10_answer 60 = .ok (.aload_n 0, 1) := by decide +kernel
theorem dX10_answer_61 : decode cX10_answer 61 = .ok (.getfield 19, 3) := by decide +kernel
theorem dX10_answer_64 : decode cX10_answer 64 = .ok (.aload 5, 2) := by decide +kernel
theorem dX10_answer_66 : decode cX10_answer 66 = .ok (.iload_n 2, 1) := by decide +kernel
theorem dX10_answer_67 : decode cX10_answer 67 = .ok (.invokevirtual 209, 3) := by decide +kernel
theorem dX10_answer_70 : decode cX10_answer 70 = .ok (.ifCond .eq 7, 3) := by decide +kernel
theorem dX10_answer_73 : decode cX10_answer 73 = .ok (.iconst 2, 1) := by decide +kernel
theorem dX10_answer_74 : decode cX10_answer 74 = .ok (.goto 4, 3) := by decide +kernel
theorem dX10_answer_77 : decode cX10_answer 77 = .ok (.iconst 1, 1) := by decide +kernel
theorem dX10_answer_78 : decode cX10_answer 78 = .ok (.ireturn, 1) := by decide +kernel
theorem dX10_tick_0 : decode cX10_tick 0 = .ok (.iload_n 1, 1) := by decide +kernel
theorem dX10_tick_1 : decode cX10_tick 1 = .ok (.iconst 0, 1) := by decide +kernel
theorem dX10_tick_2 : decode cX10_tick 2 = .ok (.sipush 1000, 3) := by decide +kernel
theorem dX10_tick_5 : decode cX10_tick 5 = .ok (.invokestatic 55, 3) := by decide +kernel
theorem dX10_tick_8 : decode cX10_tick 8 = .ok (.ifCond .ne 11, 3) := by decide +kernel
theorem dX10_tick_11 : decode cX10_tick 11 = .ok (.new 59, 3) := by decide +kernel
theorem dX10_tick_14 : decode cX10_tick 14 = .ok (.dup, 1) := by decide +kernel
theorem dX10_tick_15 : decode cX10_tick 15 = .ok (.invokespecial 61, 3) := by decide +kernel
theorem dX10_tick_18 : decode cX10_tick 18 = .ok (.athrow, 1) := by decide +kernel
theorem dX10_tick_19 : decode cX10_tick 19 = .ok (.aload_n 0, 1) := by decide +kernel
theorem dX10_tick_20 : decode cX10_tick 20 = .ok (.getfield 19, 3) := by decide +kernel
theorem dX10_tick_23 : decode cX10_tick 23 = .ok (.getfield 176, 3) := by decide +kernel
theorem dX10_tick_26 : decode cX10_tick 26 = .ok (.iload_n 1, 1) := by decide +kernel
theorem dX10_tick_27 : decode cX10_tick 27 = .ok (.iadd, 1) := by decide +kernel
theorem dX10_tick_28 : decode cX10_tick 28 = .ok (.ldc 248, 2) := by decide +kernel
theorem dX10_tick_30 : decode cX10_tick 30 = .ok (.if_icmp .le 11, 3) := by decide +kernel
theorem dX10_tick_33 : decode cX10_tick 33 = .ok (.new 249, 3) := by decide +kernel
theorem dX10_tick_36 : decode cX10_tick 36 = .ok (.dup, 1) := by decide +kernel
theorem dX10_tick_37 : decode cX10_tick 37 = .ok (.invokespecial 251, 3) := by decide +kernel
theorem dX10_tick_40 : decode cX10_tick 40 = .ok (.athrow, 1) := by decide +kernel
theorem dX10_tick_41 : decode cX10_tick 41 = .ok (.aload_n 0, 1) := by decide +kernel
theorem dX10_tick_42 : decode cX10_tick 42 = .ok (.getfield 19, 3) := by decide +kernel
theorem dX10_tick_45 : decode cX10_tick 45 = .ok (.getfield 176, 3) := by decide +kernel
theorem dX10_tick_48 : decode cX10_tick 48 = .ok (.iload_n 1, 1) := by decide +kernel
theorem dX10_tick_49 : decode cX10_tick 49 = .ok (.iadd, 1) := by decide +kernel
theorem dX10_tick_50 : decode cX10_tick 50 = .ok (.istore_n 2, 1) := by decide +kernel
theorem dX10_tick_51 : decode cX10_tick 51 = .ok (.iconst 0, 1) := by decide +kernel
theorem dX10_tick_52 : decode cX10_tick 52 = .ok (.istore_n 3, 1) := by decide +kernel
theorem dX10_tick_53 : decode cX10_tick 53 = .ok (.iload_n 3, 1) := by decide +kernel
theorem dX10_tick_54 : decode cX10_tick 54 = .ok (.iload_n 1, 1) := by decide +kernel
theorem dX10_tick_55 : decode cX10_tick 55 = .ok (.if_icmp .ge 51, 3) := by decide +kernel
theorem dX10_tick_58 : decode cX10_tick 58 = .ok (.aload_n 0, 1) := by decide +kernel
theorem dX10_tick_59 : decode cX10_tick 59 = .ok (.getfield 19, 3) := by decide +kernel
theorem dX10_tick_62 : decode cX10_tick 62 = .ok (.getfield 176, 3) := by decide +kernel
theorem dX10_tick_65 : decode cX10_tick 65 = .ok (.iload_n 2, 1) := by decide +kernel
theorem dX10_tick_66 : decode cX10_tick 66 = .ok (.if_icmp .ge 40, 3) := by decide +kernel
theorem dX10_tick_69 : decode cX10_tick 69 = .ok (.aload_n 0, 1) := by decide +kernel
theorem dX10_tick_70 : decode cX10_tick 70 = .ok (.getfield 19, 3) := by decide +kernel
theorem dX10_tick_73 : decode cX10_tick 73 = .ok (.aload_n 0, 1) := by decide +kernel
theorem dX10_tick_74 : decode cX10_tick 74 = .ok (.getfield 19, 3) := by decide +kernel
theorem dX10_tick_77 : decode cX10_tick 77 = .ok (.getfield 176, 3) := by decide +kernel
theorem dX10_tick_80 : decode cX10_tick 80 = .ok (.iconst 1, 1) := by decide +kernel
theorem dX10_tick_81 : decode cX10_tick 81 = .ok (.iadd, 1) := by decide +kernel
theorem dX10_tick_82 : decode cX10_tick 82 = .ok (.iload_n 2, 1) := by decide +kernel
theorem dX10_tick_83 : decode cX10_tick 83 = .ok (.aload_n 0, 1) := by decide +kernel
theorem dX10_tick_84 : decode cX10_tick 84 = .ok (.invokevirtual 252, 3) := by decide +kernel
theorem dX10_tick_87 : decode cX10_tick 87 = .ok (.invokestatic 255, 3) := by decide +kernel
theorem dX10_tick_90 : decode cX10_tick 90 = .ok (.invokestatic 260, 3) := by decide +kernel
theorem dX10_tick_93 : decode cX10_tick 93 = .ok (.putfield 176, 3) := by decide +kernel
theorem dX10_tick_96 : decode cX10_tick 96 = .ok (.aload_n 0, 1) := by decide +kernel
theorem dX10_tick_97 : decode cX10_tick 97 = .ok (.invokevirtual 263, 3) := by decide +kernel
theorem dX10_tick_100 : decode cX10_tick 100 = .ok (.iinc 3 1, 3) := by decide +kernel
theorem dX10_tick_103 : decode cX10_tick 103 = .ok (.goto (-50), 3) := by decide +kernel
theorem dX10_tick_106 : decode cX10_tick 106 = .ok (.aload_n 0, 1) := by decide +kernel
theorem dX10_tick_107 : decode cX10_tick 107 = .ok (.getfield 19, 3) := by decide +kernel
theorem dX10_tick_110 : decode cX10_tick 110 = .ok (.getfield 176, 3) := by decide +kernel
theorem dX10_tick_113 : decode cX10_tick 113 = .ok (.ireturn, 1) := by decide +kernel
theorem dX10_trial_0 : decode cX10_trial 0 = .ok (.aload_n 0, 1) := by decide +kernel
theorem dX10_trial_1 : decode cX10_trial 1 = .ok (.iload_n 1, 1) := by decide +kernel
theorem dX10_trial_2 : decode cX10_trial 2 = .ok (.invokevirtual 153, 3) := by decide +kernel
theorem dX10_trial_5 : decode cX10_trial 5 = .ok (.astore 5, 2) := by decide +kernel
theorem dX10_trial_7 : decode cX10_trial 7 = .ok (.aload_n 0, 1) := by decide +kernel
theorem dX10_trial_8 : decode cX10_trial 8 = .ok (.iload_n 2, 1) := by decide +kernel
theorem dX10_trial_9 : decode cX10_trial 9 = .ok (.invokevirtual 82, 3) := by decide +kernel
theorem dX10_trial_12 : decode cX10_trial 12 = .ok (.astore 6, 2) := by decide +kernel
theorem dX10_trial_14 : decode cX10_trial 14 = .ok (.iload_n 3, 1) := by decide +kernel
theorem dX10_trial_15 : decode cX10_trial 15 = .ok (.iconst 0, 1) := by decide +kernel
theorem dX10_trial_16 : decode cX10_trial 16 = .ok (.sipush 20000, 3) := by decide +kernel
theorem dX10_trial_19 : decode cX10_trial 19 = .ok (.invokestatic 55, 3) := by decide +kernel
theorem dX10_trial_22 : decode cX10_trial 22 = .ok (.ifCond .ne 11, 3) := by decide +kernel
theorem dX10_trial_25 : decode cX10_trial 25 = .ok (.new 59, 3) := by decide +kernel
theorem dX10_trial_28 : decode cX10_trial 28 = .ok (.dup, 1) := by decide +kernel
theorem dX10_trial_29 : decode cX10_trial 29 = .ok (.invokespecial 61, 3) := by decide +kernel
theorem dX10_trial_32 : decode cX10_trial 32 = .ok (.athrow, 1) := by decide +kernel
theorem dX10_trial_33 : decode cX10_trial 33 = .ok (.aload_n 0, 1) := by decide +kernel
theorem dX10_trial_34 : decode cX10_trial 34 = .ok (.getfield 19, 3) := by decide +kernel
theorem dX10_trial_37 : decode cX10_trial 37 = .ok (.getfield 103, 3) := by decide +kernel
theorem dX10_trial_40 : decode cX10_trial 40 = .ok (.aload 6, 2) := by decide +kernel
theorem dX10_trial_42 : decode cX10_trial 42 = .ok (.iload_n 3, 1) := by decide +kernel
theorem dX10_trial_43 : decode cX10_trial 43 = .ok (.invokevirtual 123, 3) := by decide +kernel
theorem dX10_trial_46 : decode cX10_trial 46 = .ok (.iload 4, 2) := by decide +kernel
theorem dX10_trial_48 : decode cX10_trial 48 = .ok (.if_icmp .ne 7, 3) := by decide +kernel
theorem dX10_trial_51 : decode cX10_trial 51 = .ok (.iconst 1, 1) := by decide +kernel
theorem dX10_trial_52 : decode cX10_trial 52 = .ok (.goto 4, 3) := by decide +kernel
theorem dX10_trial_55 : decode cX10_trial 55 = .ok (.iconst 0, 1) := by decide +kernel
theorem dX10_trial_56 : decode cX10_trial 56 = .ok (.istore 7, 2) := by decide +kernel
theorem dX10_trial_58 : decode cX10_trial 58 = .ok (.iload 7, 2) := by decide +kernel
theorem dX10_trial_60 : decode cX10_trial 60 = .ok (.ifCond .eq 17, 3) := by decide +kernel
theorem dX10_trial_63 : decode cX10_trial 63 = .ok (.aload 5, 2) := by decide +kernel
theorem dX10_trial_65 : decode cX10_trial 65 = .ok (.dup, 1) := by decide +kernel
theorem dX10_trial_66 : decode cX10_trial 66 = .ok (.getfield 157, 3) := by decide +kernel
theorem dX10_trial_69 : decode cX10_trial 69 = .ok (.iconst 1, 1) := by decide +kernel
theorem dX10_trial_70 : decode cX10_trial 70 = .ok (.iadd, 1) := by decide +kernel
theorem dX10_trial_71 : decode cX10_trial 71 = .ok (.putfield 157, 3) := by decide +kernel
theorem dX10_trial_74 : decode cX10_trial 74 = .ok (.goto 14, 3) := by decide +kernel
theorem dX10_trial_77 : decode cX10_trial 77 = .ok (.aload 5, 2) := by decide +kernel
theorem dX10_trial_79 : decode cX10_trial 79 = .ok (.dup, 1) := by decide +kernel
theorem dX10_trial_80 : decode cX10_trial 80 = .ok (.getfield 160, 3) := by decide +kernel
theorem dX10_trial_83 : decode cX10_trial 83 = .ok (.iconst 1, 1) := by decide +kernel
theorem dX10_trial_84 : decode cX10_trial 84 = .ok (.iadd, 1) := by decide +kernel
theorem dX10_trial_85 : decode cX10_trial 85 = .ok (.putfield 160, 3) := by decide +kernel
theorem dX10_trial_88 : decode cX10_trial 88 = .ok (.iload 7, 2) := by decide +kernel
theorem dX10_trial_90 : decode cX10_trial 90 = .ok (.ireturn, 1) := by decide +kernel
