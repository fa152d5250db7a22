theorem dL_cost_0 : decode cL_cost 0 = .ok (.aload 4, 2) := by decide +kernel
theorem dL_cost_2 : decode cL_cost 2 = .ok (.iconst 0, 1) := by decide +kernel
theorem dL_cost_3 : decode cL_cost 3 = .ok (.aload_n 0, 1) := by decide +kernel
theorem dL_cost_4 : decode cL_cost 4 = .ok (.iload_n 1, 1) := by decide +kernel
theorem dL_cost_5 : decode cL_cost 5 = .ok (.iload_n 2, 1) := by decide +kernel
theorem dL_cost_6 : decode cL_cost 6 = .ok (.iload_n 3, 1) := by decide +kernel
theorem dL_cost_7 : decode cL_cost 7 = .ok (.invokevirtual 82, 3) := by decide +kernel
theorem dL_cost_10 : decode cL_cost 10 = .ok (.lastore, 1) := by decide +kernel
theorem dL_cost_11 : decode cL_cost 11 = .ok (.goto 7, 3) := by decide +kernel
theorem dL_cost_14 : decode cL_cost 14 = .ok (.astore 5, 2) := by decide +kernel
theorem dL_cost_16 : decode cL_cost 16 = .ok (.iconst 1, 1) := by decide +kernel
theorem dL_cost_17 : decode cL_cost 17 = .ok (.ireturn, 1) := by decide +kernel
theorem dL_cost_18 : decode cL_cost 18 = .ok (.iconst 0, 1) := by decide +kernel
theorem dL_cost_19 : decode cL_cost 19 = .ok (.ireturn, 1) := by decide +kernel
theorem dL_chosen_0 : decode cL_chosen 0 = .ok (.aload 5, 2) := by decide +kernel
theorem dL_chosen_2 : decode cL_chosen 2 = .ok (.iconst 0, 1) := by decide +kernel
theorem dL_chosen_3 : decode cL_chosen 3 = .ok (.aload_n 0, 1) := by decide +kernel
theorem dL_chosen_4 : decode cL_chosen 4 = .ok (.iload_n 1, 1) := by decide +kernel
theorem dL_chosen_5 : decode cL_chosen 5 = .ok (.iload_n 2, 1) := by decide +kernel
theorem dL_chosen_6 : decode cL_chosen 6 = .ok (.iload_n 3, 1) := by decide +kernel
theorem dL_chosen_7 : decode cL_chosen 7 = .ok (.iload 4, 2) := by decide +kernel
theorem dL_chosen_9 : decode cL_chosen 9 = .ok (.invokevirtual 86, 3) := by decide +kernel
theorem dL_chosen_12 : decode cL_chosen 12 = .ok (.lastore, 1) := by decide +kernel
theorem dL_chosen_13 : decode cL_chosen 13 = .ok (.goto 11, 3) := by decide +kernel
theorem dL_chosen_16 : decode cL_chosen 16 = .ok (.astore 6, 2) := by decide +kernel
theorem dL_chosen_18 : decode cL_chosen 18 = .ok (.iconst 1, 1) := by decide +kernel
theorem dL_chosen_19 : decode cL_chosen 19 = .ok (.ireturn, 1) := by decide +kernel
theorem dL_chosen_20 : decode cL_chosen 20 = .ok (.astore 6, 2) := by decide +kernel
theorem dL_chosen_22 : decode cL_chosen 22 = .ok (.iconst 2, 1) := by decide +kernel
theorem dL_chosen_23 : decode cL_chosen 23 = .ok (.ireturn, 1) := by decide +kernel
theorem dL_chosen_24 : decode cL_chosen 24 = .ok (.iconst 0, 1) := by decide +kernel
theorem dL_chosen_25 : decode cL_chosen 25 = .ok (.ireturn, 1) := by decide +kernel
theorem dL_linear_0 : decode cL_linear 0 = .ok (.aload_n 2, 1) := by decide +kernel
theorem dL_linear_1 : decode cL_linear 1 = .ok (.iconst 0, 1) := by decide +kernel
theorem dL_linear_2 : decode cL_linear 2 = .ok (.aload_n 0, 1) := by decide +kernel
theorem dL_linear_3 : decode cL_linear 3 = .ok (.iload_n 1, 1) := by decide +kernel
theorem dL_linear_4 : decode cL_linear 4 = .ok (.invokevirtual 90, 3) := by decide +kernel
theorem dL_linear_7 : decode cL_linear 7 = .ok (.i2l, 1) := by decide +kernel
theorem dL_linear_8 : decode cL_linear 8 = .ok (.lastore, 1) := by decide +kernel
theorem dL_linear_9 : decode cL_linear 9 = .ok (.goto 6, 3) := by decide +kernel
theorem dL_linear_12 : decode cL_linear 12 = .ok (.astore_n 3, 1) := by decide +kernel
theorem dL_linear_13 : decode cL_linear 13 = .ok (.iconst 1, 1) := by decide +kernel
theorem dL_linear_14 : decode cL_linear 14 = .ok (.ireturn, 1) := by decide +kernel
theorem dL_linear_15 : decode cL_linear 15 = .ok (.iconst 0, 1) := by decide +kernel
theorem dL_linear_16 : decode cL_linear 16 = .ok (.ireturn, 1) := by decide +kernel
theorem dL_lot_0 : decode cL_lot 0 = .ok (.aload 5, 2) := by decide +kernel
theorem dL_lot_2 : decode cL_lot 2 = .ok (.iconst 0, 1) := by decide +kernel
theorem dL_lot_3 : decode cL_lot 3 = .ok (.aload_n 0, 1) := by decide +kernel
theorem dL_lot_4 : decode cL_lot 4 = .ok (.iload_n 1, 1) := by decide +kernel
theorem dL_lot_5 : decode cL_lot 5 = .ok (.iload_n 2, 1) := by decide +kernel
theorem dL_lot_6 : decode cL_lot 6 = .ok (.iload_n 3, 1) := by decide +kernel
theorem dL_lot_7 : decode cL_lot 7 = .ok (.iload 4, 2) := by decide +kernel
theorem dL_lot_9 : decode cL_lot 9 = .ok (.invokevirtual 93, 3) := by decide +kernel
theorem dL_lot_12 : decode cL_lot 12 = .ok (.i2l, 1) := by decide +kernel
theorem dL_lot_13 : decode cL_lot 13 = .ok (.lastore, 1) := by decide +kernel
theorem dL_lot_14 : decode cL_lot 14 = .ok (.goto 11, 3) := by decide +kernel
theorem dL_lot_17 : decode cL_lot 17 = .ok (.astore 6, 2) := by decide +kernel
theorem dL_lot_19 : decode cL_lot 19 = .ok (.iconst 1, 1) := by decide +kernel
theorem dL_lot_20 : decode cL_lot 20 = .ok (.ireturn, 1) := by decide +kernel
theorem dL_lot_21 : decode cL_lot 21 = .ok (.astore 6, 2) := by decide +kernel
theorem dL_lot_23 : decode cL_lot 23 = .ok (.iconst 2, 1) := by decide +kernel
theorem dL_lot_24 : decode cL_lot 24 = .ok (.ireturn, 1) := by decide +kernel
theorem dL_lot_25 : decode cL_lot 25 = .ok (.iconst 0, 1) := by decide +kernel
theorem dL_lot_26 : decode cL_lot 26 = .ok (.ireturn, 1) := by decide +kernel
theorem dL_part_0 : decode cL_part 0 = .ok (.aload 5, 2) := by decide +kernel
theorem dL_part_2 : decode cL_part 2 = .ok (.iconst 0, 1) := by decide +kernel
theorem dL_part_3 : decode cL_part 3 = .ok (.aload_n 0, 1) := by decide +kernel
theorem dL_part_4 : decode cL_part 4 = .ok (.iload_n 1, 1) := by decide +kernel
theorem dL_part_5 : decode cL_part 5 = .ok (.iload_n 2, 1) := by decide +kernel
theorem dL_part_6 : decode cL_part 6 = .ok (.iload_n 3, 1) := by decide +kernel
theorem dL_part_7 : decode cL_part 7 = .ok (.iload 4, 2) := by decide +kernel
theorem dL_part_9 : decode cL_part 9 = .ok (.invokevirtual 96, 3) := by decide +kernel
theorem dL_part_12 : decode cL_part 12 = .ok (.i2l, 1) := by decide +kernel
theorem dL_part_13 : decode cL_part 13 = .ok (.lastore, 1) := by decide +kernel
theorem dL_part_14 : decode cL_part 14 = .ok (.goto 11, 3) := by decide +kernel
theorem dL_part_17 : decode cL_part 17 = .ok (.astore 6, 2) := by decide +kernel
theorem dL_part_19 : decode cL_part 19 = .ok (.iconst 1, 1) := by decide +kernel
theorem dL_part_20 : decode cL_part 20 = .ok (.ireturn, 1) := by decide +kernel
theorem dL_part_21 : decode cL_part 21 = .ok (.astore 6, 2) := by decide +kernel
theorem dL_part_23 : decode cL_part 23 = .ok (.iconst 2, 1) := by decide +kernel
theorem dL_part_24 : decode cL_part 24 = .ok (.ireturn, 1) := by decide +kernel
theorem dL_part_25 : decode cL_part 25 = .ok (.iconst 0, 1) := by decide +kernel
theorem dL_part_26 : decode cL_part 26 = .ok (.ireturn, 1) := by decide +kernel
theorem dL_out_0 : decode cL_out 0 = .ok (.aload 4, 2) := by decide +kernel
theorem dL_out_2 : decode cL_out 2 = .ok (.iconst 0, 1) := by decide +kernel
theorem dL_out_3 : decode cL_out 3 = .ok (.aload_n 0, 1) := by decide +kernel
theorem dL_out_4 : decode cL_out 4 = .ok (.iload_n 1, 1) := by decide +kernel
theorem dL_out_5 : decode cL_out 5 = .ok (.iload_n 2, 1) := by decide +kernel
theorem dL_out_6 : decode cL_out 6 = .ok (.iload_n 3, 1) := by decide +kernel
theorem dL_out_7 : decode cL_out 7 = .ok (.invokevirtual 99, 3) := by decide +kernel
theorem dL_out_10 : decode cL_out 10 = .ok (.i2l, 1) := by decide +kernel
theorem dL_out_11 : decode cL_out 11 = .ok (.lastore, 1) := by decide +kernel
theorem dL_out_12 : decode cL_out 12 = .ok (.goto 11, 3) := by decide +kernel
theorem dL_out_15 : decode cL_out 15 = .ok (.astore 5, 2) := by decide +kernel
theorem dL_out_17 : decode cL_out 17 = .ok (.iconst 1, 1) := by decide +kernel
theorem dL_out_18 : decode cL_out 18 = .ok (.ireturn, 1) := by decide +kernel
theorem dL_out_19 : decode cL_out 19 = .ok (.astore 5, 2) := by decide +kernel
theorem dL_out_21 : decode cL_out 21 = .ok (.iconst 2, 1) := by decide +kernel
theorem dL_out_22 : decode cL_out 22 = .ok (.ireturn, 1) := by decide +kernel
theorem dL_out_23 : decode cL_out 23 = .ok (.iconst 0, 1) := by decide +kernel
theorem dL_out_24 : decode cL_out 24 = .ok (.ireturn, 1) := by decide +kernel
theorem dL_purse_0 : decode cL_purse 0 = .ok (.aload_n 2, 1) := by decide +kernel
theorem dL_purse_1 : decode cL_purse 1 = .ok (.iconst 0, 1) := by decide +kernel
theorem dL_purse_2 : decode cL_purse 2 = .ok (.aload_n 0, 1) := by decide +kernel
theorem dL_purse_3 : decode cL_purse 3 = .ok (.iload_n 1, 1) := by decide +kernel
theorem dL_purse_4 : decode cL_purse 4 = .ok (.invokevirtual 102, 3) := by decide +kernel
theorem dL_purse_7 : decode cL_purse 7 = .ok (.i2l, 1) := by decide +kernel
theorem dL_purse_8 : decode cL_purse 8 = .ok (.lastore, 1) := by decide +kernel
theorem dL_purse_9 : decode cL_purse 9 = .ok (.goto 6, 3) := by decide +kernel
theorem dL_purse_12 : decode cL_purse 12 = .ok (.astore_n 3, 1) := by decide +kernel
theorem dL_purse_13 : decode cL_purse 13 = .ok (.iconst 1, 1) := by decide +kernel
theorem dL_purse_14 : decode cL_purse 14 = .ok (.ireturn, 1) := by decide +kernel
theorem dL_purse_15 : decode cL_purse 15 = .ok (.iconst 0, 1) := by decide +kernel
theorem dL_purse_16 : decode cL_purse 16 = .ok (.ireturn, 1) := by decide +kernel
