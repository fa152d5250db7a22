theorem dL_task_0 : decode cL_task 0 = .ok (.aload_n 3, 1) := by decide +kernel
theorem dL_task_1 : decode cL_task 1 = .ok (.iconst 0, 1) := by decide +kernel
theorem dL_task_2 : decode cL_task 2 = .ok (.aload_n 0, 1) := by decide +kernel
theorem dL_task_3 : decode cL_task 3 = .ok (.iload_n 1, 1) := by decide +kernel
theorem dL_task_4 : decode cL_task 4 = .ok (.iload_n 2, 1) := by decide +kernel
theorem dL_task_5 : decode cL_task 5 = .ok (.invokevirtual 7, 3) := by decide +kernel
theorem dL_task_8 : decode cL_task 8 = .ok (.i2l, 1) := by decide +kernel
theorem dL_task_9 : decode cL_task 9 = .ok (.lastore, 1) := by decide +kernel
theorem dL_task_10 : decode cL_task 10 = .ok (.goto 7, 3) := by decide +kernel
theorem dL_task_13 : decode cL_task 13 = .ok (.astore 4, 2) := by decide +kernel
theorem dL_task_15 : decode cL_task 15 = .ok (.iconst 1, 1) := by decide +kernel
theorem dL_task_16 : decode cL_task 16 = .ok (.ireturn, 1) := by decide +kernel
theorem dL_task_17 : decode cL_task 17 = .ok (.iconst 0, 1) := by decide +kernel
theorem dL_task_18 : decode cL_task 18 = .ok (.ireturn, 1) := by decide +kernel
theorem jL_task_10 (f : Nat → Prop) : zjp 10 (7) f = f 17 := zjp_lit (by decide) f
theorem dL_code_0 : decode cL_code 0 = .ok (.aload 4, 2) := by decide +kernel
theorem dL_code_2 : decode cL_code 2 = .ok (.iconst 0, 1) := by decide +kernel
theorem dL_code_3 : decode cL_code 3 = .ok (.aload_n 0, 1) := by decide +kernel
theorem dL_code_4 : decode cL_code 4 = .ok (.iload_n 1, 1) := by decide +kernel
theorem dL_code_5 : decode cL_code 5 = .ok (.iload_n 2, 1) := by decide +kernel
theorem dL_code_6 : decode cL_code 6 = .ok (.iload_n 3, 1) := by decide +kernel
theorem dL_code_7 : decode cL_code 7 = .ok (.invokevirtual 15, 3) := by decide +kernel
theorem dL_code_10 : decode cL_code 10 = .ok (.i2l, 1) := by decide +kernel
theorem dL_code_11 : decode cL_code 11 = .ok (.lastore, 1) := by decide +kernel
theorem dL_code_12 : decode cL_code 12 = .ok (.goto 11, 3) := by decide +kernel
theorem dL_code_15 : decode cL_code 15 = .ok (.astore 5, 2) := by decide +kernel
theorem dL_code_17 : decode cL_code 17 = .ok (.iconst 1, 1) := by decide +kernel
theorem dL_code_18 : decode cL_code 18 = .ok (.ireturn, 1) := by decide +kernel
theorem dL_code_19 : decode cL_code 19 = .ok (.astore 5, 2) := by decide +kernel
theorem dL_code_21 : decode cL_code 21 = .ok (.iconst 2, 1) := by decide +kernel
theorem dL_code_22 : decode cL_code 22 = .ok (.ireturn, 1) := by decide +kernel
theorem dL_code_23 : decode cL_code 23 = .ok (.iconst 0, 1) := by decide +kernel
theorem dL_code_24 : decode cL_code 24 = .ok (.ireturn, 1) := by decide +kernel
theorem jL_code_12 (f : Nat → Prop) : zjp 12 (11) f = f 23 := zjp_lit (by decide) f
theorem dL_memory_0 : decode cL_memory 0 = .ok (.aload 4, 2) := by decide +kernel
theorem dL_memory_2 : decode cL_memory 2 = .ok (.iconst 0, 1) := by decide +kernel
theorem dL_memory_3 : decode cL_memory 3 = .ok (.aload_n 0, 1) := by decide +kernel
theorem dL_memory_4 : decode cL_memory 4 = .ok (.iload_n 1, 1) := by decide +kernel
theorem dL_memory_5 : decode cL_memory 5 = .ok (.iload_n 2, 1) := by decide +kernel
theorem dL_memory_6 : decode cL_memory 6 = .ok (.iload_n 3, 1) := by decide +kernel
theorem dL_memory_7 : decode cL_memory 7 = .ok (.invokevirtual 21, 3) := by decide +kernel
theorem dL_memory_10 : decode cL_memory 10 = .ok (.i2l, 1) := by decide +kernel
theorem dL_memory_11 : decode cL_memory 11 = .ok (.lastore, 1) := by decide +kernel
theorem dL_memory_12 : decode cL_memory 12 = .ok (.goto 11, 3) := by decide +kernel
theorem dL_memory_15 : decode cL_memory 15 = .ok (.astore 5, 2) := by decide +kernel
theorem dL_memory_17 : decode cL_memory 17 = .ok (.iconst 1, 1) := by decide +kernel
theorem dL_memory_18 : decode cL_memory 18 = .ok (.ireturn, 1) := by decide +kernel
theorem dL_memory_19 : decode cL_memory 19 = .ok (.astore 5, 2) := by decide +kernel
theorem dL_memory_21 : decode cL_memory 21 = .ok (.iconst 2, 1) := by decide +kernel
theorem dL_memory_22 : decode cL_memory 22 = .ok (.ireturn, 1) := by decide +kernel
theorem dL_memory_23 : decode cL_memory 23 = .ok (.iconst 0, 1) := by decide +kernel
theorem dL_memory_24 : decode cL_memory 24 = .ok (.ireturn, 1) := by decide +kernel
theorem jL_memory_12 (f : Nat → Prop) : zjp 12 (11) f = f 23 := zjp_lit (by decide) f
theorem dL_length_0 : decode cL_length 0 = .ok (.aload_n 2, 1) := by decide +kernel
theorem dL_length_1 : decode cL_length 1 = .ok (.iconst 0, 1) := by decide +kernel
theorem dL_length_2 : decode cL_length 2 = .ok (.aload_n 0, 1) := by decide +kernel
theorem dL_length_3 : decode cL_length 3 = .ok (.iload_n 1, 1) := by decide +kernel
theorem dL_length_4 : decode cL_length 4 = .ok (.invokevirtual 24, 3) := by decide +kernel
theorem dL_length_7 : decode cL_length 7 = .ok (.i2l, 1) := by decide +kernel
theorem dL_length_8 : decode cL_length 8 = .ok (.lastore, 1) := by decide +kernel
theorem dL_length_9 : decode cL_length 9 = .ok (.goto 6, 3) := by decide +kernel
theorem dL_length_12 : decode cL_length 12 = .ok (.astore_n 3, 1) := by decide +kernel
theorem dL_length_13 : decode cL_length 13 = .ok (.iconst 1, 1) := by decide +kernel
theorem dL_length_14 : decode cL_length 14 = .ok (.ireturn, 1) := by decide +kernel
theorem dL_length_15 : decode cL_length 15 = .ok (.iconst 0, 1) := by decide +kernel
theorem dL_length_16 : decode cL_length 16 = .ok (.ireturn, 1) := by decide +kernel
theorem jL_length_9 (f : Nat → Prop) : zjp 9 (6) f = f 15 := zjp_lit (by decide) f
theorem dL_cell_0 : decode cL_cell 0 = .ok (.aload 4, 2) := by decide +kernel
theorem dL_cell_2 : decode cL_cell 2 = .ok (.iconst 0, 1) := by decide +kernel
theorem dL_cell_3 : decode cL_cell 3 = .ok (.aload_n 0, 1) := by decide +kernel
theorem dL_cell_4 : decode cL_cell 4 = .ok (.iload_n 1, 1) := by decide +kernel
theorem dL_cell_5 : decode cL_cell 5 = .ok (.iload_n 2, 1) := by decide +kernel
theorem dL_cell_6 : decode cL_cell 6 = .ok (.iload_n 3, 1) := by decide +kernel
theorem dL_cell_7 : decode cL_cell 7 = .ok (.invokevirtual 28, 3) := by decide +kernel
theorem dL_cell_10 : decode cL_cell 10 = .ok (.i2l, 1) := by decide +kernel
theorem dL_cell_11 : decode cL_cell 11 = .ok (.lastore, 1) := by decide +kernel
theorem dL_cell_12 : decode cL_cell 12 = .ok (.goto 11, 3) := by decide +kernel
theorem dL_cell_15 : decode cL_cell 15 = .ok (.astore 5, 2) := by decide +kernel
theorem dL_cell_17 : decode cL_cell 17 = .ok (.iconst 1, 1) := by decide +kernel
theorem dL_cell_18 : decode cL_cell 18 = .ok (.ireturn, 1) := by decide +kernel
theorem dL_cell_19 : decode cL_cell 19 = .ok (.astore 5, 2) := by decide +kernel
theorem dL_cell_21 : decode cL_cell 21 = .ok (.iconst 2, 1) := by decide +kernel
theorem dL_cell_22 : decode cL_cell 22 = .ok (.ireturn, 1) := by decide +kernel
theorem dL_cell_23 : decode cL_cell 23 = .ok (.iconst 0, 1) := by decide +kernel
theorem dL_cell_24 : decode cL_cell 24 = .ok (.ireturn, 1) := by decide +kernel
theorem jL_cell_12 (f : Nat → Prop) : zjp 12 (11) f = f 23 := zjp_lit (by decide) f
theorem dL_sum_0 : decode cL_sum 0 = .ok (.aload_n 3, 1) := by decide +kernel
theorem dL_sum_1 : decode cL_sum 1 = .ok (.iconst 0, 1) := by decide +kernel
theorem dL_sum_2 : decode cL_sum 2 = .ok (.aload_n 0, 1) := by decide +kernel
theorem dL_sum_3 : decode cL_sum 3 = .ok (.iload_n 1, 1) := by decide +kernel
theorem dL_sum_4 : decode cL_sum 4 = .ok (.iload_n 2, 1) := by decide +kernel
theorem dL_sum_5 : decode cL_sum 5 = .ok (.invokevirtual 31, 3) := by decide +kernel
theorem dL_sum_8 : decode cL_sum 8 = .ok (.i2l, 1) := by decide +kernel
theorem dL_sum_9 : decode cL_sum 9 = .ok (.lastore, 1) := by decide +kernel
theorem dL_sum_10 : decode cL_sum 10 = .ok (.goto 11, 3) := by decide +kernel
theorem dL_sum_13 : decode cL_sum 13 = .ok (.astore 4, 2) := by decide +kernel
theorem dL_sum_15 : decode cL_sum 15 = .ok (.iconst 1, 1) := by decide +kernel
theorem dL_sum_16 : decode cL_sum 16 = .ok (.ireturn, 1) := by decide +kernel
theorem dL_sum_17 : decode cL_sum 17 = .ok (.astore 4, 2) := by decide +kernel
theorem dL_sum_19 : decode cL_sum 19 = .ok (.iconst 2, 1) := by decide +kernel
theorem dL_sum_20 : decode cL_sum 20 = .ok (.ireturn, 1) := by decide +kernel
theorem dL_sum_21 : decode cL_sum 21 = .ok (.iconst 0, 1) := by decide +kernel
theorem dL_sum_22 : decode cL_sum 22 = .ok (.ireturn, 1) := by decide +kernel
theorem jL_sum_10 (f : Nat → Prop) : zjp 10 (11) f = f 21 := zjp_lit (by decide) f
theorem dL_beside_0 : decode cL_beside 0 = .ok (.aload 5, 2) := by decide +kernel
theorem dL_beside_2 : decode cL_beside 2 = .ok (.iconst 0, 1) := by decide +kernel
theorem dL_beside_3 : decode cL_beside 3 = .ok (.aload_n 0, 1) := by decide +kernel
theorem dL_beside_4 : decode cL_beside 4 = .ok (.iload_n 1, 1) := by decide +kernel
theorem dL_beside_5 : decode cL_beside 5 = .ok (.iload_n 2, 1) := by decide +kernel
theorem dL_beside_6 : decode cL_beside 6 = .ok (.iload_n 3, 1) := by decide +kernel
theorem dL_beside_7 : decode cL_beside 7 = .ok (.iload 4, 2) := by decide +kernel
theorem dL_beside_9 : decode cL_beside 9 = .ok (.invokevirtual 34, 3) := by decide +kernel
theorem dL_beside_12 : decode cL_beside 12 = .ok (.i2l, 1) := by decide +kernel
theorem dL_beside_13 : decode cL_beside 13 = .ok (.lastore, 1) := by decide +kernel
theorem dL_beside_14 : decode cL_beside 14 = .ok (.goto 11, 3) := by decide +kernel
theorem dL_beside_17 : decode cL_beside 17 = .ok (.astore 6, 2) := by decide +kernel
theorem dL_beside_19 : decode cL_beside 19 = .ok (.iconst 1, 1) := by decide +kernel
theorem dL_beside_20 : decode cL_beside 20 = .ok (.ireturn, 1) := by decide +kernel
theorem dL_beside_21 : decode cL_beside 21 = .ok (.astore 6, 2) := by decide +kernel
theorem dL_beside_23 : decode cL_beside 23 = .ok (.iconst 2, 1) := by decide +kernel
theorem dL_beside_24 : decode cL_beside 24 = .ok (.ireturn, 1) := by decide +kernel
theorem dL_beside_25 : decode cL_beside 25 = .ok (.iconst 0, 1) := by decide +kernel
theorem dL_beside_26 : decode cL_beside 26 = .ok (.ireturn, 1) := by decide +kernel
theorem jL_beside_14 (f : Nat → Prop) : zjp 14 (11) f = f 25 := zjp_lit (by decide) f
theorem dL_shown_0 : decode cL_shown 0 = .ok (.aload 5, 2) := by decide +kernel
theorem dL_shown_2 : decode cL_shown 2 = .ok (.iconst 0, 1) := by decide +kernel
theorem dL_shown_3 : decode cL_shown 3 = .ok (.aload_n 0, 1) := by decide +kernel
theorem dL_shown_4 : decode cL_shown 4 = .ok (.iload_n 1, 1) := by decide +kernel
theorem dL_shown_5 : decode cL_shown 5 = .ok (.iload_n 2, 1) := by decide +kernel
theorem dL_shown_6 : decode cL_shown 6 = .ok (.iload_n 3, 1) := by decide +kernel
theorem dL_shown_7 : decode cL_shown 7 = .ok (.iload 4, 2) := by decide +kernel
theorem dL_shown_9 : decode cL_shown 9 = .ok (.invokevirtual 38, 3) := by decide +kernel
theorem dL_shown_12 : decode cL_shown 12 = .ok (.ifCond .eq 7, 3) := by decide +kernel
theorem dL_shown_15 : decode cL_shown 15 = .ok (.lconst 1, 1) := by decide +kernel
theorem dL_shown_16 : decode cL_shown 16 = .ok (.goto 4, 3) := by decide +kernel
theorem dL_shown_19 : decode cL_shown 19 = .ok (.lconst 0, 1) := by decide +kernel
theorem dL_shown_20 : decode cL_shown 20 = .ok (.lastore, 1) := by decide +kernel
theorem dL_shown_21 : decode cL_shown 21 = .ok (.goto 11, 3) := by decide +kernel
theorem dL_shown_24 : decode cL_shown 24 = .ok (.astore 6, 2) := by decide +kernel
theorem dL_shown_26 : decode cL_shown 26 = .ok (.iconst 1, 1) := by decide +kernel
theorem dL_shown_27 : decode cL_shown 27 = .ok (.ireturn, 1) := by decide +kernel
theorem dL_shown_28 : decode cL_shown 28 = .ok (.astore 6, 2) := by decide +kernel
theorem dL_shown_30 : decode cL_shown 30 = .ok (.iconst 2, 1) := by decide +kernel
theorem dL_shown_31 : decode cL_shown 31 = .ok (.ireturn, 1) := by decide +kernel
theorem dL_shown_32 : decode cL_shown 32 = .ok (.iconst 0, 1) := by decide +kernel
theorem dL_shown_33 : decode cL_shown 33 = .ok (.ireturn, 1) := by decide +kernel
theorem jL_shown_12 (f : Nat → Prop) : zjp 12 (7) f = f 19 := zjp_lit (by decide) f
theorem jL_shown_16 (f : Nat → Prop) : zjp 16 (4) f = f 20 := zjp_lit (by decide) f
theorem jL_shown_21 (f : Nat → Prop) : zjp 21 (11) f = f 32 := zjp_lit (by decide) f
theorem dL_cut_0 : decode cL_cut 0 = .ok (.aload_n 3, 1) := by decide +kernel
theorem dL_cut_1 : decode cL_cut 1 = .ok (.iconst 0, 1) := by decide +kernel
theorem dL_cut_2 : decode cL_cut 2 = .ok (.aload_n 0, 1) := by decide +kernel
theorem dL_cut_3 : decode cL_cut 3 = .ok (.iload_n 1, 1) := by decide +kernel
theorem dL_cut_4 : decode cL_cut 4 = .ok (.iload_n 2, 1) := by decide +kernel
theorem dL_cut_5 : decode cL_cut 5 = .ok (.invokevirtual 42, 3) := by decide +kernel
theorem dL_cut_8 : decode cL_cut 8 = .ok (.i2l, 1) := by decide +kernel
theorem dL_cut_9 : decode cL_cut 9 = .ok (.lastore, 1) := by decide +kernel
theorem dL_cut_10 : decode cL_cut 10 = .ok (.goto 11, 3) := by decide +kernel
theorem dL_cut_13 : decode cL_cut 13 = .ok (.astore 4, 2) := by decide +kernel
theorem dL_cut_15 : decode cL_cut 15 = .ok (.iconst 1, 1) := by decide +kernel
theorem dL_cut_16 : decode cL_cut 16 = .ok (.ireturn, 1) := by decide +kernel
theorem dL_cut_17 : decode cL_cut 17 = .ok (.astore 4, 2) := by decide +kernel
theorem dL_cut_19 : decode cL_cut 19 = .ok (.iconst 2, 1) := by decide +kernel
theorem dL_cut_20 : decode cL_cut 20 = .ok (.ireturn, 1) := by decide +kernel
theorem dL_cut_21 : decode cL_cut 21 = .ok (.iconst 0, 1) := by decide +kernel
theorem dL_cut_22 : decode cL_cut 22 = .ok (.ireturn, 1) := by decide +kernel
theorem jL_cut_10 (f : Nat → Prop) : zjp 10 (11) f = f 21 := zjp_lit (by decide) f
theorem dL_house_0 : decode cL_house 0 = .ok (.aload_n 2, 1) := by decide +kernel
theorem dL_house_1 : decode cL_house 1 = .ok (.iconst 0, 1) := by decide +kernel
theorem dL_house_2 : decode cL_house 2 = .ok (.aload_n 0, 1) := by decide +kernel
theorem dL_house_3 : decode cL_house 3 = .ok (.iload_n 1, 1) := by decide +kernel
theorem dL_house_4 : decode cL_house 4 = .ok (.invokevirtual 45, 3) := by decide +kernel
theorem dL_house_7 : decode cL_house 7 = .ok (.i2l, 1) := by decide +kernel
theorem dL_house_8 : decode cL_house 8 = .ok (.lastore, 1) := by decide +kernel
theorem dL_house_9 : decode cL_house 9 = .ok (.goto 6, 3) := by decide +kernel
theorem dL_house_12 : decode cL_house 12 = .ok (.astore_n 3, 1) := by decide +kernel
theorem dL_house_13 : decode cL_house 13 = .ok (.iconst 1, 1) := by decide +kernel
theorem dL_house_14 : decode cL_house 14 = .ok (.ireturn, 1) := by decide +kernel
theorem dL_house_15 : decode cL_house 15 = .ok (.iconst 0, 1) := by decide +kernel
theorem dL_house_16 : decode cL_house 16 = .ok (.ireturn, 1) := by decide +kernel
theorem jL_house_9 (f : Nat → Prop) : zjp 9 (6) f = f 15 := zjp_lit (by decide) f
theorem dL_told_0 : decode cL_told 0 = .ok (.aload_n 3, 1) := by decide +kernel
theorem dL_told_1 : decode cL_told 1 = .ok (.iconst 0, 1) := by decide +kernel
theorem dL_told_2 : decode cL_told 2 = .ok (.aload_n 0, 1) := by decide +kernel
theorem dL_told_3 : decode cL_told 3 = .ok (.iload_n 1, 1) := by decide +kernel
theorem dL_told_4 : decode cL_told 4 = .ok (.iload_n 2, 1) := by decide +kernel
theorem dL_told_5 : decode cL_told 5 = .ok (.invokevirtual 48, 3) := by decide +kernel
theorem dL_told_8 : decode cL_told 8 = .ok (.i2l, 1) := by decide +kernel
theorem dL_told_9 : decode cL_told 9 = .ok (.lastore, 1) := by decide +kernel
theorem dL_told_10 : decode cL_told 10 = .ok (.goto 11, 3) := by decide +kernel
theorem dL_told_13 : decode cL_told 13 = .ok (.astore 4, 2) := by decide +kernel
theorem dL_told_15 : decode cL_told 15 = .ok (.iconst 1, 1) := by decide +kernel
theorem dL_told_16 : decode cL_told 16 = .ok (.ireturn, 1) := by decide +kernel
theorem dL_told_17 : decode cL_told 17 = .ok (.astore 4, 2) := by decide +kernel
theorem dL_told_19 : decode cL_told 19 = .ok (.iconst 2, 1) := by decide +kernel
theorem dL_told_20 : decode cL_told 20 = .ok (.ireturn, 1) := by decide +kernel
theorem dL_told_21 : decode cL_told 21 = .ok (.iconst 0, 1) := by decide +kernel
theorem dL_told_22 : decode cL_told 22 = .ok (.ireturn, 1) := by decide +kernel
theorem jL_told_10 (f : Nat → Prop) : zjp 10 (11) f = f 21 := zjp_lit (by decide) f
theorem dL_rule_0 : decode cL_rule 0 = .ok (.aload_n 3, 1) := by decide +kernel
theorem dL_rule_1 : decode cL_rule 1 = .ok (.iconst 0, 1) := by decide +kernel
theorem dL_rule_2 : decode cL_rule 2 = .ok (.aload_n 0, 1) := by decide +kernel
theorem dL_rule_3 : decode cL_rule 3 = .ok (.iload_n 1, 1) := by decide +kernel
theorem dL_rule_4 : decode cL_rule 4 = .ok (.iload_n 2, 1) := by decide +kernel
theorem dL_rule_5 : decode cL_rule 5 = .ok (.invokevirtual 51, 3) := by decide +kernel
theorem dL_rule_8 : decode cL_rule 8 = .ok (.i2l, 1) := by decide +kernel
theorem dL_rule_9 : decode cL_rule 9 = .ok (.lastore, 1) := by decide +kernel
theorem dL_rule_10 : decode cL_rule 10 = .ok (.goto 7, 3) := by decide +kernel
theorem dL_rule_13 : decode cL_rule 13 = .ok (.astore 4, 2) := by decide +kernel
theorem dL_rule_15 : decode cL_rule 15 = .ok (.iconst 1, 1) := by decide +kernel
theorem dL_rule_16 : decode cL_rule 16 = .ok (.ireturn, 1) := by decide +kernel
theorem dL_rule_17 : decode cL_rule 17 = .ok (.iconst 0, 1) := by decide +kernel
theorem dL_rule_18 : decode cL_rule 18 = .ok (.ireturn, 1) := by decide +kernel
theorem jL_rule_10 (f : Nat → Prop) : zjp 10 (7) f = f 17 := zjp_lit (by decide) f
theorem dL_give_0 : decode cL_give 0 = .ok (.aload 7, 2) := by decide +kernel
theorem dL_give_2 : decode cL_give 2 = .ok (.iconst 0, 1) := by decide +kernel
theorem dL_give_3 : decode cL_give 3 = .ok (.aload_n 0, 1) := by decide +kernel
theorem dL_give_4 : decode cL_give 4 = .ok (.iload_n 1, 1) := by decide +kernel
theorem dL_give_5 : decode cL_give 5 = .ok (.iload_n 2, 1) := by decide +kernel
theorem dL_give_6 : decode cL_give 6 = .ok (.iload_n 3, 1) := by decide +kernel
theorem dL_give_7 : decode cL_give 7 = .ok (.iload 4, 2) := by decide +kernel
theorem dL_give_9 : decode cL_give 9 = .ok (.iload 5, 2) := by decide +kernel
theorem dL_give_11 : decode cL_give 11 = .ok (.iload 6, 2) := by decide +kernel
theorem dL_give_13 : decode cL_give 13 = .ok (.invokevirtual 54, 3) := by decide +kernel
theorem dL_give_16 : decode cL_give 16 = .ok (.i2l, 1) := by decide +kernel
theorem dL_give_17 : decode cL_give 17 = .ok (.lastore, 1) := by decide +kernel
theorem dL_give_18 : decode cL_give 18 = .ok (.goto 11, 3) := by decide +kernel
theorem dL_give_21 : decode cL_give 21 = .ok (.astore 8, 2) := by decide +kernel
theorem dL_give_23 : decode cL_give 23 = .ok (.iconst 1, 1) := by decide +kernel
theorem dL_give_24 : decode cL_give 24 = .ok (.ireturn, 1) := by decide +kernel
theorem dL_give_25 : decode cL_give 25 = .ok (.astore 8, 2) := by decide +kernel
theorem dL_give_27 : decode cL_give 27 = .ok (.iconst 2, 1) := by decide +kernel
theorem dL_give_28 : decode cL_give 28 = .ok (.ireturn, 1) := by decide +kernel
theorem dL_give_29 : decode cL_give 29 = .ok (.iconst 0, 1) := by decide +kernel
theorem dL_give_30 : decode cL_give 30 = .ok (.ireturn, 1) := by decide +kernel
theorem jL_give_18 (f : Nat → Prop) : zjp 18 (11) f = f 29 := zjp_lit (by decide) f
theorem dL_claim_0 : decode cL_claim 0 = .ok (.aload 4, 2) := by decide +kernel
theorem dL_claim_2 : decode cL_claim 2 = .ok (.iconst 0, 1) := by decide +kernel
theorem dL_claim_3 : decode cL_claim 3 = .ok (.aload_n 0, 1) := by decide +kernel
theorem dL_claim_4 : decode cL_claim 4 = .ok (.iload_n 1, 1) := by decide +kernel
theorem dL_claim_5 : decode cL_claim 5 = .ok (.iload_n 2, 1) := by decide +kernel
theorem dL_claim_6 : decode cL_claim 6 = .ok (.iload_n 3, 1) := by decide +kernel
theorem dL_claim_7 : decode cL_claim 7 = .ok (.invokevirtual 58, 3) := by decide +kernel
theorem dL_claim_10 : decode cL_claim 10 = .ok (.i2l, 1) := by decide +kernel
theorem dL_claim_11 : decode cL_claim 11 = .ok (.lastore, 1) := by decide +kernel
theorem dL_claim_12 : decode cL_claim 12 = .ok (.goto 7, 3) := by decide +kernel
theorem dL_claim_15 : decode cL_claim 15 = .ok (.astore 5, 2) := by decide +kernel
theorem dL_claim_17 : decode cL_claim 17 = .ok (.iconst 1, 1) := by decide +kernel
theorem dL_claim_18 : decode cL_claim 18 = .ok (.ireturn, 1) := by decide +kernel
theorem dL_claim_19 : decode cL_claim 19 = .ok (.iconst 0, 1) := by decide +kernel
theorem dL_claim_20 : decode cL_claim 20 = .ok (.ireturn, 1) := by decide +kernel
theorem jL_claim_12 (f : Nat → Prop) : zjp 12 (7) f = f 19 := zjp_lit (by decide) f
theorem dL_doubt_0 : decode cL_doubt 0 = .ok (.aload 5, 2) := by decide +kernel
theorem dL_doubt_2 : decode cL_doubt 2 = .ok (.iconst 0, 1) := by decide +kernel
theorem dL_doubt_3 : decode cL_doubt 3 = .ok (.aload_n 0, 1) := by decide +kernel
theorem dL_doubt_4 : decode cL_doubt 4 = .ok (.iload_n 1, 1) := by decide +kernel
theorem dL_doubt_5 : decode cL_doubt 5 = .ok (.iload_n 2, 1) := by decide +kernel
theorem dL_doubt_6 : decode cL_doubt 6 = .ok (.iload_n 3, 1) := by decide +kernel
theorem dL_doubt_7 : decode cL_doubt 7 = .ok (.iload 4, 2) := by decide +kernel
theorem dL_doubt_9 : decode cL_doubt 9 = .ok (.invokevirtual 61, 3) := by decide +kernel
theorem dL_doubt_12 : decode cL_doubt 12 = .ok (.i2l, 1) := by decide +kernel
theorem dL_doubt_13 : decode cL_doubt 13 = .ok (.lastore, 1) := by decide +kernel
theorem dL_doubt_14 : decode cL_doubt 14 = .ok (.goto 7, 3) := by decide +kernel
theorem dL_doubt_17 : decode cL_doubt 17 = .ok (.astore 6, 2) := by decide +kernel
theorem dL_doubt_19 : decode cL_doubt 19 = .ok (.iconst 1, 1) := by decide +kernel
theorem dL_doubt_20 : decode cL_doubt 20 = .ok (.ireturn, 1) := by decide +kernel
theorem dL_doubt_21 : decode cL_doubt 21 = .ok (.iconst 0, 1) := by decide +kernel
theorem dL_doubt_22 : decode cL_doubt 22 = .ok (.ireturn, 1) := by decide +kernel
theorem jL_doubt_14 (f : Nat → Prop) : zjp 14 (7) f = f 21 := zjp_lit (by decide) f
theorem dL_piece_0 : decode cL_piece 0 = .ok (.aload 4, 2) := by decide +kernel
theorem dL_piece_2 : decode cL_piece 2 = .ok (.iconst 0, 1) := by decide +kernel
theorem dL_piece_3 : decode cL_piece 3 = .ok (.aload_n 0, 1) := by decide +kernel
theorem dL_piece_4 : decode cL_piece 4 = .ok (.iload_n 1, 1) := by decide +kernel
theorem dL_piece_5 : decode cL_piece 5 = .ok (.iload_n 2, 1) := by decide +kernel
theorem dL_piece_6 : decode cL_piece 6 = .ok (.iload_n 3, 1) := by decide +kernel
theorem dL_piece_7 : decode cL_piece 7 = .ok (.invokevirtual 64, 3) := by decide +kernel
theorem dL_piece_10 : decode cL_piece 10 = .ok (.i2l, 1) := by decide +kernel
theorem dL_piece_11 : decode cL_piece 11 = .ok (.lastore, 1) := by decide +kernel
theorem dL_piece_12 : decode cL_piece 12 = .ok (.goto 11, 3) := by decide +kernel
theorem dL_piece_15 : decode cL_piece 15 = .ok (.astore 5, 2) := by decide +kernel
theorem dL_piece_17 : decode cL_piece 17 = .ok (.iconst 1, 1) := by decide +kernel
theorem dL_piece_18 : decode cL_piece 18 = .ok (.ireturn, 1) := by decide +kernel
theorem dL_piece_19 : decode cL_piece 19 = .ok (.astore 5, 2) := by decide +kernel
theorem dL_piece_21 : decode cL_piece 21 = .ok (.iconst 2, 1) := by decide +kernel
theorem dL_piece_22 : decode cL_piece 22 = .ok (.ireturn, 1) := by decide +kernel
theorem dL_piece_23 : decode cL_piece 23 = .ok (.iconst 0, 1) := by decide +kernel
theorem dL_piece_24 : decode cL_piece 24 = .ok (.ireturn, 1) := by decide +kernel
theorem jL_piece_12 (f : Nat → Prop) : zjp 12 (11) f = f 23 := zjp_lit (by decide) f
theorem dL_answer_0 : decode cL_answer 0 = .ok (.aload 5, 2) := by decide +kernel
theorem dL_answer_2 : decode cL_answer 2 = .ok (.iconst 0, 1) := by decide +kernel
theorem dL_answer_3 : decode cL_answer 3 = .ok (.aload_n 0, 1) := by decide +kernel
theorem dL_answer_4 : decode cL_answer 4 = .ok (.iload_n 1, 1) := by decide +kernel
theorem dL_answer_5 : decode cL_answer 5 = .ok (.iload_n 2, 1) := by decide +kernel
theorem dL_answer_6 : decode cL_answer 6 = .ok (.iload_n 3, 1) := by decide +kernel
theorem dL_answer_7 : decode cL_answer 7 = .ok (.iload 4, 2) := by decide +kernel
theorem dL_answer_9 : decode cL_answer 9 = .ok (.invokevirtual 67, 3) := by decide +kernel
theorem dL_answer_12 : decode cL_answer 12 = .ok (.i2l, 1) := by decide +kernel
theorem dL_answer_13 : decode cL_answer 13 = .ok (.lastore, 1) := by decide +kernel
theorem dL_answer_14 : decode cL_answer 14 = .ok (.goto 7, 3) := by decide +kernel
theorem dL_answer_17 : decode cL_answer 17 = .ok (.astore 6, 2) := by decide +kernel
theorem dL_answer_19 : decode cL_answer 19 = .ok (.iconst 1, 1) := by decide +kernel
theorem dL_answer_20 : decode cL_answer 20 = .ok (.ireturn, 1) := by decide +kernel
theorem dL_answer_21 : decode cL_answer 21 = .ok (.iconst 0, 1) := by decide +kernel
theorem dL_answer_22 : decode cL_answer 22 = .ok (.ireturn, 1) := by decide +kernel
theorem jL_answer_14 (f : Nat → Prop) : zjp 14 (7) f = f 21 := zjp_lit (by decide) f
theorem dL_tick_0 : decode cL_tick 0 = .ok (.aload_n 2, 1) := by decide +kernel
theorem dL_tick_1 : decode cL_tick 1 = .ok (.iconst 0, 1) := by decide +kernel
theorem dL_tick_2 : decode cL_tick 2 = .ok (.aload_n 0, 1) := by decide +kernel
theorem dL_tick_3 : decode cL_tick 3 = .ok (.iload_n 1, 1) := by decide +kernel
theorem dL_tick_4 : decode cL_tick 4 = .ok (.invokevirtual 71, 3) := by decide +kernel
theorem dL_tick_7 : decode cL_tick 7 = .ok (.i2l, 1) := by decide +kernel
theorem dL_tick_8 : decode cL_tick 8 = .ok (.lastore, 1) := by decide +kernel
theorem dL_tick_9 : decode cL_tick 9 = .ok (.goto 9, 3) := by decide +kernel
theorem dL_tick_12 : decode cL_tick 12 = .ok (.astore_n 3, 1) := by decide +kernel
theorem dL_tick_13 : decode cL_tick 13 = .ok (.iconst 1, 1) := by decide +kernel
theorem dL_tick_14 : decode cL_tick 14 = .ok (.ireturn, 1) := by decide +kernel
theorem dL_tick_15 : decode cL_tick 15 = .ok (.astore_n 3, 1) := by decide +kernel
theorem dL_tick_16 : decode cL_tick 16 = .ok (.iconst 2, 1) := by decide +kernel
theorem dL_tick_17 : decode cL_tick 17 = .ok (.ireturn, 1) := by decide +kernel
theorem dL_tick_18 : decode cL_tick 18 = .ok (.iconst 0, 1) := by decide +kernel
theorem dL_tick_19 : decode cL_tick 19 = .ok (.ireturn, 1) := by decide +kernel
theorem jL_tick_9 (f : Nat → Prop) : zjp 9 (9) f = f 18 := zjp_lit (by decide) f
theorem dL_trial_0 : decode cL_trial 0 = .ok (.aload 5, 2) := by decide +kernel
theorem dL_trial_2 : decode cL_trial 2 = .ok (.iconst 0, 1) := by decide +kernel
theorem dL_trial_3 : decode cL_trial 3 = .ok (.aload_n 0, 1) := by decide +kernel
theorem dL_trial_4 : decode cL_trial 4 = .ok (.iload_n 1, 1) := by decide +kernel
theorem dL_trial_5 : decode cL_trial 5 = .ok (.iload_n 2, 1) := by decide +kernel
theorem dL_trial_6 : decode cL_trial 6 = .ok (.iload_n 3, 1) := by decide +kernel
theorem dL_trial_7 : decode cL_trial 7 = .ok (.iload 4, 2) := by decide +kernel
theorem dL_trial_9 : decode cL_trial 9 = .ok (.invokevirtual 76, 3) := by decide +kernel
theorem dL_trial_12 : decode cL_trial 12 = .ok (.ifCond .eq 7, 3) := by decide +kernel
theorem dL_trial_15 : decode cL_trial 15 = .ok (.lconst 1, 1) := by decide +kernel
theorem dL_trial_16 : decode cL_trial 16 = .ok (.goto 4, 3) := by decide +kernel
theorem dL_trial_19 : decode cL_trial 19 = .ok (.lconst 0, 1) := by decide +kernel
theorem dL_trial_20 : decode cL_trial 20 = .ok (.lastore, 1) := by decide +kernel
theorem dL_trial_21 : decode cL_trial 21 = .ok (.goto 11, 3) := by decide +kernel
theorem dL_trial_24 : decode cL_trial 24 = .ok (.astore 6, 2) := by decide +kernel
theorem dL_trial_26 : decode cL_trial 26 = .ok (.iconst 1, 1) := by decide +kernel
theorem dL_trial_27 : decode cL_trial 27 = .ok (.ireturn, 1) := by decide +kernel
theorem dL_trial_28 : decode cL_trial 28 = .ok (.astore 6, 2) := by decide +kernel
theorem dL_trial_30 : decode cL_trial 30 = .ok (.iconst 2, 1) := by decide +kernel
theorem dL_trial_31 : decode cL_trial 31 = .ok (.ireturn, 1) := by decide +kernel
theorem dL_trial_32 : decode cL_trial 32 = .ok (.iconst 0, 1) := by decide +kernel
theorem dL_trial_33 : decode cL_trial 33 = .ok (.ireturn, 1) := by decide +kernel
theorem jL_trial_12 (f : Nat → Prop) : zjp 12 (7) f = f 19 := zjp_lit (by decide) f
theorem jL_trial_16 (f : Nat → Prop) : zjp 16 (4) f = f 20 := zjp_lit (by decide) f
theorem jL_trial_21 (f : Nat → Prop) : zjp 21 (11) f = f 32 := zjp_lit (by decide) f
theorem dL_bid_0 : decode cL_bid 0 = .ok (.aload 7, 2) := by decide +kernel
theorem dL_bid_2 : decode cL_bid 2 = .ok (.iconst 0, 1) := by decide +kernel
theorem dL_bid_3 : decode cL_bid 3 = .ok (.aload_n 0, 1) := by decide +kernel
theorem dL_bid_4 : decode cL_bid 4 = .ok (.iload_n 1, 1) := by decide +kernel
theorem dL_bid_5 : decode cL_bid 5 = .ok (.iload_n 2, 1) := by decide +kernel
theorem dL_bid_6 : decode cL_bid 6 = .ok (.iload_n 3, 1) := by decide +kernel
theorem dL_bid_7 : decode cL_bid 7 = .ok (.iload 4, 2) := by decide +kernel
theorem dL_bid_9 : decode cL_bid 9 = .ok (.iload 5, 2) := by decide +kernel
theorem dL_bid_11 : decode cL_bid 11 = .ok (.iload 6, 2) := by decide +kernel
theorem dL_bid_13 : decode cL_bid 13 = .ok (.invokevirtual 79, 3) := by decide +kernel
theorem dL_bid_16 : decode cL_bid 16 = .ok (.i2l, 1) := by decide +kernel
theorem dL_bid_17 : decode cL_bid 17 = .ok (.lastore, 1) := by decide +kernel
theorem dL_bid_18 : decode cL_bid 18 = .ok (.goto 11, 3) := by decide +kernel
theorem dL_bid_21 : decode cL_bid 21 = .ok (.astore 8, 2) := by decide +kernel
theorem dL_bid_23 : decode cL_bid 23 = .ok (.iconst 1, 1) := by decide +kernel
theorem dL_bid_24 : decode cL_bid 24 = .ok (.ireturn, 1) := by decide +kernel
theorem dL_bid_25 : decode cL_bid 25 = .ok (.astore 8, 2) := by decide +kernel
theorem dL_bid_27 : decode cL_bid 27 = .ok (.iconst 2, 1) := by decide +kernel
theorem dL_bid_28 : decode cL_bid 28 = .ok (.ireturn, 1) := by decide +kernel
theorem dL_bid_29 : decode cL_bid 29 = .ok (.iconst 0, 1) := by decide +kernel
theorem dL_bid_30 : decode cL_bid 30 = .ok (.ireturn, 1) := by decide +kernel
theorem jL_bid_18 (f : Nat → Prop) : zjp 18 (11) f = f 29 := zjp_lit (by decide) f
theorem dL_cost_0 : decode cL_cost 0 = .ok (.aload 4, 2) := by decide +kernel
theorem dL_cost_2 : decode cL_cost 2 = .ok (.iconst 0, 1) := by decide +kernel
theorem dL_cost_3 : decode cL_cost 3 = .ok (.aload_n 0, 1) := by decide +kernel
theorem dL_cost_4 : decode cL_cost 4 = .ok (.iload_n 1, 1) := by decide +kernel
theorem dL_cost_5 : decode cL_cost 5 = .ok (.iload_n 2, 1) := by decide +kernel
theorem dL_cost_6 : decode cL_cost 6 = .ok (.iload_n 3, 1) := by decide +kernel
theorem dL_cost_7 : decode cL_cost 7 = .ok (.invokevirtual 82, 3) := by decide +kernel
theorem dL_cost_10 : decode cL_cost 10 = .ok (.lastore, 1) := by decide +kernel
theorem dL_cost_11 : decode cL_cost 11 = .ok (.goto 7, 3) := by decide +kernel
theorem dL_cost_14 : decode cL_cost 14 = .ok (.astore 5, 2) := by decide +kernel
theorem dL_cost_16 : decode cL_cost 16 = .ok (.iconst 1, 1) := by decide +kernel
theorem dL_cost_17 : decode cL_cost 17 = .ok (.ireturn, 1) := by decide +kernel
theorem dL_cost_18 : decode cL_cost 18 = .ok (.iconst 0, 1) := by decide +kernel
theorem dL_cost_19 : decode cL_cost 19 = .ok (.ireturn, 1) := by decide +kernel
theorem jL_cost_11 (f : Nat → Prop) : zjp 11 (7) f = f 18 := zjp_lit (by decide) f
theorem dL_chosen_0 : decode cL_chosen 0 = .ok (.aload 5, 2) := by decide +kernel
theorem dL_chosen_2 : decode cL_chosen 2 = .ok (.iconst 0, 1) := by decide +kernel
theorem dL_chosen_3 : decode cL_chosen 3 = .ok (.aload_n 0, 1) := by decide +kernel
theorem dL_chosen_4 : decode cL_chosen 4 = .ok (.iload_n 1, 1) := by decide +kernel
theorem dL_chosen_5 : decode cL_chosen 5 = .ok (.iload_n 2, 1) := by decide +kernel
theorem dL_chosen_6 : decode cL_chosen 6 = .ok (.iload_n 3, 1) := by decide +kernel
theorem dL_chosen_7 : decode cL_chosen 7 = .ok (.iload 4, 2) := by decide +kernel
theorem dL_chosen_9 : decode cL_chosen 9 = .ok (.invokevirtual 86, 3) := by decide +kernel
theorem dL_chosen_12 : decode cL_chosen 12 = .ok (.lastore, 1) := by decide +kernel
theorem dL_chosen_13 : decode cL_chosen 13 = .ok (.goto 11, 3) := by decide +kernel
theorem dL_chosen_16 : decode cL_chosen 16 = .ok (.astore 6, 2) := by decide +kernel
theorem dL_chosen_18 : decode cL_chosen 18 = .ok (.iconst 1, 1) := by decide +kernel
theorem dL_chosen_19 : decode cL_chosen 19 = .ok (.ireturn, 1) := by decide +kernel
theorem dL_chosen_20 : decode cL_chosen 20 = .ok (.astore 6, 2) := by decide +kernel
theorem dL_chosen_22 : decode cL_chosen 22 = .ok (.iconst 2, 1) := by decide +kernel
theorem dL_chosen_23 : decode cL_chosen 23 = .ok (.ireturn, 1) := by decide +kernel
theorem dL_chosen_24 : decode cL_chosen 24 = .ok (.iconst 0, 1) := by decide +kernel
theorem dL_chosen_25 : decode cL_chosen 25 = .ok (.ireturn, 1) := by decide +kernel
theorem jL_chosen_13 (f : Nat → Prop) : zjp 13 (11) f = f 24 := zjp_lit (by decide) f
theorem dL_linear_0 : decode cL_linear 0 = .ok (.aload_n 2, 1) := by decide +kernel
theorem dL_linear_1 : decode cL_linear 1 = .ok (.iconst 0, 1) := by decide +kernel
theorem dL_linear_2 : decode cL_linear 2 = .ok (.aload_n 0, 1) := by decide +kernel
theorem dL_linear_3 : decode cL_linear 3 = .ok (.iload_n 1, 1) := by decide +kernel
theorem dL_linear_4 : decode cL_linear 4 = .ok (.invokevirtual 90, 3) := by decide +kernel
theorem dL_linear_7 : decode cL_linear 7 = .ok (.i2l, 1) := by decide +kernel
theorem dL_linear_8 : decode cL_linear 8 = .ok (.lastore, 1) := by decide +kernel
theorem dL_linear_9 : decode cL_linear 9 = .ok (.goto 6, 3) := by decide +kernel
theorem dL_linear_12 : decode cL_linear 12 = .ok (.astore_n 3, 1) := by decide +kernel
theorem dL_linear_13 : decode cL_linear 13 = .ok (.iconst 1, 1) := by decide +kernel
theorem dL_linear_14 : decode cL_linear 14 = .ok (.ireturn, 1) := by decide +kernel
theorem dL_linear_15 : decode cL_linear 15 = .ok (.iconst 0, 1) := by decide +kernel
theorem dL_linear_16 : decode cL_linear 16 = .ok (.ireturn, 1) := by decide +kernel
theorem jL_linear_9 (f : Nat → Prop) : zjp 9 (6) f = f 15 := zjp_lit (by decide) f
theorem dL_lot_0 : decode cL_lot 0 = .ok (.aload 5, 2) := by decide +kernel
theorem dL_lot_2 : decode cL_lot 2 = .ok (.iconst 0, 1) := by decide +kernel
theorem dL_lot_3 : decode cL_lot 3 = .ok (.aload_n 0, 1) := by decide +kernel
theorem dL_lot_4 : decode cL_lot 4 = .ok (.iload_n 1, 1) := by decide +kernel
theorem dL_lot_5 : decode cL_lot 5 = .ok (.iload_n 2, 1) := by decide +kernel
theorem dL_lot_6 : decode cL_lot 6 = .ok (.iload_n 3, 1) := by decide +kernel
theorem dL_lot_7 : decode cL_lot 7 = .ok (.iload 4, 2) := by decide +kernel
theorem dL_lot_9 : decode cL_lot 9 = .ok (.invokevirtual 93, 3) := by decide +kernel
theorem dL_lot_12 : decode cL_lot 12 = .ok (.i2l, 1) := by decide +kernel
theorem dL_lot_13 : decode cL_lot 13 = .ok (.lastore, 1) := by decide +kernel
theorem dL_lot_14 : decode cL_lot 14 = .ok (.goto 11, 3) := by decide +kernel
theorem dL_lot_17 : decode cL_lot 17 = .ok (.astore 6, 2) := by decide +kernel
theorem dL_lot_19 : decode cL_lot 19 = .ok (.iconst 1, 1) := by decide +kernel
theorem dL_lot_20 : decode cL_lot 20 = .ok (.ireturn, 1) := by decide +kernel
theorem dL_lot_21 : decode cL_lot 21 = .ok (.astore 6, 2) := by decide +kernel
theorem dL_lot_23 : decode cL_lot 23 = .ok (.iconst 2, 1) := by decide +kernel
theorem dL_lot_24 : decode cL_lot 24 = .ok (.ireturn, 1) := by decide +kernel
theorem dL_lot_25 : decode cL_lot 25 = .ok (.iconst 0, 1) := by decide +kernel
theorem dL_lot_26 : decode cL_lot 26 = .ok (.ireturn, 1) := by decide +kernel
theorem jL_lot_14 (f : Nat → Prop) : zjp 14 (11) f = f 25 := zjp_lit (by decide) f
theorem dL_part_0 : decode cL_part 0 = .ok (.aload 5, 2) := by decide +kernel
theorem dL_part_2 : decode cL_part 2 = .ok (.iconst 0, 1) := by decide +kernel
theorem dL_part_3 : decode cL_part 3 = .ok (.aload_n 0, 1) := by decide +kernel
theorem dL_part_4 : decode cL_part 4 = .ok (.iload_n 1, 1) := by decide +kernel
theorem dL_part_5 : decode cL_part 5 = .ok (.iload_n 2, 1) := by decide +kernel
theorem dL_part_6 : decode cL_part 6 = .ok (.iload_n 3, 1) := by decide +kernel
theorem dL_part_7 : decode cL_part 7 = .ok (.iload 4, 2) := by decide +kernel
theorem dL_part_9 : decode cL_part 9 = .ok (.invokevirtual 96, 3) := by decide +kernel
theorem dL_part_12 : decode cL_part 12 = .ok (.i2l, 1) := by decide +kernel
theorem dL_part_13 : decode cL_part 13 = .ok (.lastore, 1) := by decide +kernel
theorem dL_part_14 : decode cL_part 14 = .ok (.goto 11, 3) := by decide +kernel
theorem dL_part_17 : decode cL_part 17 = .ok (.astore 6, 2) := by decide +kernel
theorem dL_part_19 : decode cL_part 19 = .ok (.iconst 1, 1) := by decide +kernel
theorem dL_part_20 : decode cL_part 20 = .ok (.ireturn, 1) := by decide +kernel
theorem dL_part_21 : decode cL_part 21 = .ok (.astore 6, 2) := by decide +kernel
theorem dL_part_23 : decode cL_part 23 = .ok (.iconst 2, 1) := by decide +kernel
theorem dL_part_24 : decode cL_part 24 = .ok (.ireturn, 1) := by decide +kernel
theorem dL_part_25 : decode cL_part 25 = .ok (.iconst 0, 1) := by decide +kernel
theorem dL_part_26 : decode cL_part 26 = .ok (.ireturn, 1) := by decide +kernel
theorem jL_part_14 (f : Nat → Prop) : zjp 14 (11) f = f 25 := zjp_lit (by decide) f
theorem dL_out_0 : decode cL_out 0 = .ok (.aload 4, 2) := by decide +kernel
theorem dL_out_2 : decode cL_out 2 = .ok (.iconst 0, 1) := by decide +kernel
theorem dL_out_3 : decode cL_out 3 = .ok (.aload_n 0, 1) := by decide +kernel
theorem dL_out_4 : decode cL_out 4 = .ok (.iload_n 1, 1) := by decide +kernel
theorem dL_out_5 : decode cL_out 5 = .ok (.iload_n 2, 1) := by decide +kernel
theorem dL_out_6 : decode cL_out 6 = .ok (.iload_n 3, 1) := by decide +kernel
theorem dL_out_7 : decode cL_out 7 = .ok (.invokevirtual 99, 3) := by decide +kernel
theorem dL_out_10 : decode cL_out 10 = .ok (.i2l, 1) := by decide +kernel
theorem dL_out_11 : decode cL_out 11 = .ok (.lastore, 1) := by decide +kernel
theorem dL_out_12 : decode cL_out 12 = .ok (.goto 11, 3) := by decide +kernel
theorem dL_out_15 : decode cL_out 15 = .ok (.astore 5, 2) := by decide +kernel
theorem dL_out_17 : decode cL_out 17 = .ok (.iconst 1, 1) := by decide +kernel
theorem dL_out_18 : decode cL_out 18 = .ok (.ireturn, 1) := by decide +kernel
theorem dL_out_19 : decode cL_out 19 = .ok (.astore 5, 2) := by decide +kernel
theorem dL_out_21 : decode cL_out 21 = .ok (.iconst 2, 1) := by decide +kernel
theorem dL_out_22 : decode cL_out 22 = .ok (.ireturn, 1) := by decide +kernel
theorem dL_out_23 : decode cL_out 23 = .ok (.iconst 0, 1) := by decide +kernel
theorem dL_out_24 : decode cL_out 24 = .ok (.ireturn, 1) := by decide +kernel
theorem jL_out_12 (f : Nat → Prop) : zjp 12 (11) f = f 23 := zjp_lit (by decide) f
theorem dL_purse_0 : decode cL_purse 0 = .ok (.aload_n 2, 1) := by decide +kernel
theorem dL_purse_1 : decode cL_purse 1 = .ok (.iconst 0, 1) := by decide +kernel
theorem dL_purse_2 : decode cL_purse 2 = .ok (.aload_n 0, 1) := by decide +kernel
theorem dL_purse_3 : decode cL_purse 3 = .ok (.iload_n 1, 1) := by decide +kernel
theorem dL_purse_4 : decode cL_purse 4 = .ok (.invokevirtual 102, 3) := by decide +kernel
theorem dL_purse_7 : decode cL_purse 7 = .ok (.i2l, 1) := by decide +kernel
theorem dL_purse_8 : decode cL_purse 8 = .ok (.lastore, 1) := by decide +kernel
theorem dL_purse_9 : decode cL_purse 9 = .ok (.goto 6, 3) := by decide +kernel
theorem dL_purse_12 : decode cL_purse 12 = .ok (.astore_n 3, 1) := by decide +kernel
theorem dL_purse_13 : decode cL_purse 13 = .ok (.iconst 1, 1) := by decide +kernel
theorem dL_purse_14 : decode cL_purse 14 = .ok (.ireturn, 1) := by decide +kernel
theorem dL_purse_15 : decode cL_purse 15 = .ok (.iconst 0, 1) := by decide +kernel
theorem dL_purse_16 : decode cL_purse 16 = .ok (.ireturn, 1) := by decide +kernel
theorem jL_purse_9 (f : Nat → Prop) : zjp 9 (6) f = f 15 := zjp_lit (by decide) f
