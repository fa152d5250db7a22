theorem dL_task_0 : decode cL_task 0 = .ok (.aload_n 3, 1) := by decide +kernel
theorem dL_task_1 : decode cL_task 1 = .ok (.iconst 0, 1) := by decide +kernel
theorem dL_task_2 : decode cL_task 2 = .ok (.aload_n 0, 1) := by decide +kernel
theorem dL_task_3 : decode cL_task 3 = .ok (.iload_n 1, 1) := by decide +kernel
theorem dL_task_4 : decode cL_task 4 = .ok (.iload_n 2, 1) := by decide +kernel
theorem dL_task_5 : decode cL_task 5 = .ok (.invokevirtual 7, 3) := by decide +kernel
theorem dL_task_8 : decode cL_task 8 = .ok (.i2l, 1) := by decide +kernel
theorem dL_task_9 : decode cL_task 9 = .ok (.lastore, 1) := by decide +kernel
theorem dL_task_10 : decode cL_task 10 = .ok (.goto 7, 3) := by decide +kernel
theorem dL_task_13 : decode cL_task 13 = .ok (.astore 4, 2) := by decide +kernel
theorem dL_task_15 : decode cL_task 15 = .ok (.iconst 1, 1) := by decide +kernel
theorem dL_task_16 : decode cL_task 16 = .ok (.ireturn, 1) := by decide +kernel
theorem dL_task_17 : decode cL_task 17 = .ok (.iconst 0, 1) := by decide +kernel
theorem dL_task_18 : decode cL_task 18 = .ok (.ireturn, 1) := by decide +kernel
theorem dL_code_0 : decode cL_code 0 = .ok (.aload 4, 2) := by decide +kernel
theorem dL_code_2 : decode cL_code 2 = .ok (.iconst 0, 1) := by decide +kernel
theorem dL_code_3 : decode cL_code 3 = .ok (.aload_n 0, 1) := by decide +kernel
theorem dL_code_4 : decode cL_code 4 = .ok (.iload_n 1, 1) := by decide +kernel
theorem dL_code_5 : decode cL_code 5 = .ok (.iload_n 2, 1) := by decide +kernel
theorem dL_code_6 : decode cL_code 6 = .ok (.iload_n 3, 1) := by decide +kernel
theorem dL_code_7 : decode cL_code 7 = .ok (.invokevirtual 15, 3) := by decide +kernel
theorem dL_code_10 : decode cL_code 10 = .ok (.i2l, 1) := by decide +kernel
theorem dL_code_11 : decode cL_code 11 = .ok (.lastore, 1) := by decide +kernel
theorem dL_code_12 : decode cL_code 12 = .ok (.goto 11, 3) := by decide +kernel
theorem dL_code_15 : decode cL_code 15 = .ok (.astore 5, 2) := by decide +kernel
theorem dL_code_17 : decode cL_code 17 = .ok (.iconst 1, 1) := by decide +kernel
theorem dL_code_18 : decode cL_code 18 = .ok (.ireturn, 1) := by decide +kernel
theorem dL_code_19 : decode cL_code 19 = .ok (.astore 5, 2) := by decide +kernel
theorem dL_code_21 : decode cL_code 21 = .ok (.iconst 2, 1) := by decide +kernel
theorem dL_code_22 : decode cL_code 22 = .ok (.ireturn, 1) := by decide +kernel
theorem dL_code_23 : decode cL_code 23 = .ok (.iconst 0, 1) := by decide +kernel
theorem dL_code_24 : decode cL_code 24 = .ok (.ireturn, 1) := by decide +kernel
theorem dL_memory_0 : decode cL_memory 0 = .ok (.aload 4, 2) := by decide +kernel
theorem dL_memory_2 : decode cL_memory 2 = .ok (.iconst 0, 1) := by decide +kernel
theorem dL_memory_3 : decode cL_memory 3 = .ok (.aload_n 0, 1) := by decide +kernel
theorem dL_memory_4 : decode cL_memory 4 = .ok (.iload_n 1, 1) := by decide +kernel
theorem dL_memory_5 : decode cL_memory 5 = .ok (.iload_n 2, 1) := by decide +kernel
theorem dL_memory_6 : decode cL_memory 6 = .ok (.iload_n 3, 1) := by decide +kernel
theorem dL_memory_7 : decode cL_memory 7 = .ok (.invokevirtual 21, 3) := by decide +kernel
theorem dL_memory_10 : decode cL_memory 10 = .ok (.i2l, 1) := by decide +kernel
theorem dL_memory_11 : decode cL_memory 11 = .ok (.lastore, 1) := by decide +kernel
theorem dL_memory_12 : decode cL_memory 12 = .ok (.goto 11, 3) := by decide +kernel
theorem dL_memory_15 : decode cL_memory 15 = .ok (.astore 5, 2) := by decide +kernel
theorem dL_memory_17 : decode cL_memory 17 = .ok (.iconst 1, 1) := by decide +kernel
theorem dL_memory_18 : decode cL_memory 18 = .ok (.ireturn, 1) := by decide +kernel
theorem dL_memory_19 : decode cL_memory 19 = .ok (.astore 5, 2) := by decide +kernel
theorem dL_memory_21 : decode cL_memory 21 = .ok (.iconst 2, 1) := by decide +kernel
theorem dL_memory_22 : decode cL_memory 22 = .ok (.ireturn, 1) := by decide +kernel
theorem dL_memory_23 : decode cL_memory 23 = .ok (.iconst 0, 1) := by decide +kernel
theorem dL_memory_24 : decode cL_memory 24 = .ok (.ireturn, 1) := by decide +kernel
theorem dL_length_0 : decode cL_length 0 = .ok (.aload_n 2, 1) := by decide +kernel
theorem dL_length_1 : decode cL_length 1 = .ok (.iconst 0, 1) := by decide +kernel
theorem dL_length_2 : decode cL_length 2 = .ok (.aload_n 0, 1) := by decide +kernel
theorem dL_length_3 : decode cL_length 3 = .ok (.iload_n 1, 1) := by decide +kernel
theorem dL_length_4 : decode cL_length 4 = .ok (.invokevirtual 24, 3) := by decide +kernel
theorem dL_length_7 : decode cL_length 7 = .ok (.i2l, 1) := by decide +kernel
theorem dL_length_8 : decode cL_length 8 = .ok (.lastore, 1) := by decide +kernel
theorem dL_length_9 : decode cL_length 9 = .ok (.goto 6, 3) := by decide +kernel
theorem dL_length_12 : decode cL_length 12 = .ok (.astore_n 3, 1) := by decide +kernel
theorem dL_length_13 : decode cL_length 13 = .ok (.iconst 1, 1) := by decide +kernel
theorem dL_length_14 : decode cL_length 14 = .ok (.ireturn, 1) := by decide +kernel
theorem dL_length_15 : decode cL_length 15 = .ok (.iconst 0, 1) := by decide +kernel
theorem dL_length_16 : decode cL_length 16 = .ok (.ireturn, 1) := by decide +kernel
theorem dL_cell_0 : decode cL_cell 0 = .ok (.aload 4, 2) := by decide +kernel
theorem dL_cell_2 : decode cL_cell 2 = .ok (.iconst 0, 1) := by decide +kernel
theorem dL_cell_3 : decode cL_cell 3 = .ok (.aload_n 0, 1) := by decide +kernel
theorem dL_cell_4 : decode cL_cell 4 = .ok (.iload_n 1, 1) := by decide +kernel
theorem dL_cell_5 : decode cL_cell 5 = .ok (.iload_n 2, 1) := by decide +kernel
theorem dL_cell_6 : decode cL_cell 6 = .ok (.iload_n 3, 1) := by decide +kernel
theorem dL_cell_7 : decode cL_cell 7 = .ok (.invokevirtual 28, 3) := by decide +kernel
theorem dL_cell_10 : decode cL_cell 10 = .ok (.i2l, 1) := by decide +kernel
theorem dL_cell_11 : decode cL_cell 11 = .ok (.lastore, 1) := by decide +kernel
theorem dL_cell_12 : decode cL_cell 12 = .ok (.goto 11, 3) := by decide +kernel
theorem dL_cell_15 : decode cL_cell 15 = .ok (.astore 5, 2) := by decide +kernel
theorem dL_cell_17 : decode cL_cell 17 = .ok (.iconst 1, 1) := by decide +kernel
theorem dL_cell_18 : decode cL_cell 18 = .ok (.ireturn, 1) := by decide +kernel
theorem dL_cell_19 : decode cL_cell 19 = .ok (.astore 5, 2) := by decide +kernel
theorem dL_cell_21 : decode cL_cell 21 = .ok (.iconst 2, 1) := by decide +kernel
theorem dL_cell_22 : decode cL_cell 22 = .ok (.ireturn, 1) := by decide +kernel
theorem dL_cell_23 : decode cL_cell 23 = .ok (.iconst 0, 1) := by decide +kernel
theorem dL_cell_24 : decode cL_cell 24 = .ok (.ireturn, 1) := by decide +kernel
theorem dL_sum_0 : decode cL_sum 0 = .ok (.aload_n 3, 1) := by decide +kernel
theorem dL_sum_1 : decode cL_sum 1 = .ok (.iconst 0, 1) := by decide +kernel
theorem dL_sum_2 : decode cL_sum 2 = .ok (.aload_n 0, 1) := by decide +kernel
theorem dL_sum_3 : decode cL_sum 3 = .ok (.iload_n 1, 1) := by decide +kernel
theorem dL_sum_4 : decode cL_sum 4 = .ok (.iload_n 2, 1) := by decide +kernel
theorem dL_sum_5 : decode cL_sum 5 = .ok (.invokevirtual 31, 3) := by decide +kernel
theorem dL_sum_8 : decode cL_sum 8 = .ok (.i2l, 1) := by decide +kernel
theorem dL_sum_9 : decode cL_sum 9 = .ok (.lastore, 1) := by decide +kernel
theorem dL_sum_10 : decode cL_sum 10 = .ok (.goto 11, 3) := by decide +kernel
theorem dL_sum_13 : decode cL_sum 13 = .ok (.astore 4, 2) := by decide +kernel
theorem dL_sum_15 : decode cL_sum 15 = .ok (.iconst 1, 1) := by decide +kernel
theorem dL_sum_16 : decode cL_sum 16 = .ok (.ireturn, 1) := by decide +kernel
theorem dL_sum_17 : decode cL_sum 17 = .ok (.astore 4, 2) := by decide +kernel
theorem dL_sum_19 : decode cL_sum 19 = .ok (.iconst 2, 1) := by decide +kernel
theorem dL_sum_20 : decode cL_sum 20 = .ok (.ireturn, 1) := by decide +kernel
theorem dL_sum_21 : decode cL_sum 21 = .ok (.iconst 0, 1) := by decide +kernel
theorem dL_sum_22 : decode cL_sum 22 = .ok (.ireturn, 1) := by decide +kernel
theorem dL_beside_0 : decode cL_beside 0 = .ok (.aload 5, 2) := by decide +kernel
theorem dL_beside_2 : decode cL_beside 2 = .ok (.iconst 0, 1) := by decide +kernel
theorem dL_beside_3 : decode cL_beside 3 = .ok (.aload_n 0, 1) := by decide +kernel
theorem dL_beside_4 : decode cL_beside 4 = .ok (.iload_n 1, 1) := by decide +kernel
theorem dL_beside_5 : decode cL_beside 5 = .ok (.iload_n 2, 1) := by decide +kernel
theorem dL_beside_6 : decode cL_beside 6 = .ok (.iload_n 3, 1) := by decide +kernel
theorem dL_beside_7 : decode cL_beside 7 = .ok (.iload 4, 2) := by decide +kernel
theorem dL_beside_9 : decode cL_beside 9 = .ok (.invokevirtual 34, 3) := by decide +kernel
theorem dL_beside_12 : decode cL_beside 12 = .ok (.i2l, 1) := by decide +kernel
theorem dL_beside_13 : decode cL_beside 13 = .ok (.lastore, 1) := by decide +kernel
theorem dL_beside_14 : decode cL_beside 14 = .ok (.goto 11, 3) := by decide +kernel
theorem dL_beside_17 : decode cL_beside 17 = .ok (.astore 6, 2) := by decide +kernel
theorem dL_beside_19 : decode cL_beside 19 = .ok (.iconst 1, 1) := by decide +kernel
theorem dL_beside_20 : decode cL_beside 20 = .ok (.ireturn, 1) := by decide +kernel
theorem dL_beside_21 : decode cL_beside 21 = .ok (.astore 6, 2) := by decide +kernel
theorem dL_beside_23 : decode cL_beside 23 = .ok (.iconst 2, 1) := by decide +kernel
theorem dL_beside_24 : decode cL_beside 24 = .ok (.ireturn, 1) := by decide +kernel
theorem dL_beside_25 : decode cL_beside 25 = .ok (.iconst 0, 1) := by decide +kernel
theorem dL_beside_26 : decode cL_beside 26 = .ok (.ireturn, 1) := by decide +kernel
