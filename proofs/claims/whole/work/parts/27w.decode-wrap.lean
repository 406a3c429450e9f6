theorem dL_give_0 : decode cL_give 0 = .ok (.aload_n 3, 1) := by decide +kernel
theorem dL_give_1 : decode cL_give 1 = .ok (.iconst 0, 1) := by decide +kernel
theorem dL_give_2 : decode cL_give 2 = .ok (.aload_n 0, 1) := by decide +kernel
theorem dL_give_3 : decode cL_give 3 = .ok (.iload_n 1, 1) := by decide +kernel
theorem dL_give_4 : decode cL_give 4 = .ok (.iload_n 2, 1) := by decide +kernel
theorem dL_give_5 : decode cL_give 5 = .ok (.invokevirtual 7, 3) := by decide +kernel
theorem dL_give_8 : decode cL_give 8 = .ok (.i2l, 1) := by decide +kernel
theorem dL_give_9 : decode cL_give 9 = .ok (.lastore, 1) := by decide +kernel
theorem dL_give_10 : decode cL_give 10 = .ok (.goto 11, 3) := by decide +kernel
theorem dL_give_13 : decode cL_give 13 = .ok (.astore 4, 2) := by decide +kernel
theorem dL_give_15 : decode cL_give 15 = .ok (.iconst 1, 1) := by decide +kernel
theorem dL_give_16 : decode cL_give 16 = .ok (.ireturn, 1) := by decide +kernel
theorem dL_give_17 : decode cL_give 17 = .ok (.astore 4, 2) := by decide +kernel
theorem dL_give_19 : decode cL_give 19 = .ok (.iconst 2, 1) := by decide +kernel
theorem dL_give_20 : decode cL_give 20 = .ok (.ireturn, 1) := by decide +kernel
theorem dL_give_21 : decode cL_give 21 = .ok (.iconst 0, 1) := by decide +kernel
theorem dL_give_22 : decode cL_give 22 = .ok (.ireturn, 1) := by decide +kernel
theorem dL_giveBack_0 : decode cL_giveBack 0 = .ok (.aload_n 2, 1) := by decide +kernel
theorem dL_giveBack_1 : decode cL_giveBack 1 = .ok (.iconst 0, 1) := by decide +kernel
theorem dL_giveBack_2 : decode cL_giveBack 2 = .ok (.aload_n 0, 1) := by decide +kernel
theorem dL_giveBack_3 : decode cL_giveBack 3 = .ok (.iload_n 1, 1) := by decide +kernel
theorem dL_giveBack_4 : decode cL_giveBack 4 = .ok (.invokevirtual 17, 3) := by decide +kernel
theorem dL_giveBack_7 : decode cL_giveBack 7 = .ok (.i2l, 1) := by decide +kernel
theorem dL_giveBack_8 : decode cL_giveBack 8 = .ok (.lastore, 1) := by decide +kernel
theorem dL_giveBack_9 : decode cL_giveBack 9 = .ok (.goto 9, 3) := by decide +kernel
theorem dL_giveBack_12 : decode cL_giveBack 12 = .ok (.astore_n 3, 1) := by decide +kernel
theorem dL_giveBack_13 : decode cL_giveBack 13 = .ok (.iconst 1, 1) := by decide +kernel
theorem dL_giveBack_14 : decode cL_giveBack 14 = .ok (.ireturn, 1) := by decide +kernel
theorem dL_giveBack_15 : decode cL_giveBack 15 = .ok (.astore_n 3, 1) := by decide +kernel
theorem dL_giveBack_16 : decode cL_giveBack 16 = .ok (.iconst 2, 1) := by decide +kernel
theorem dL_giveBack_17 : decode cL_giveBack 17 = .ok (.ireturn, 1) := by decide +kernel
theorem dL_giveBack_18 : decode cL_giveBack 18 = .ok (.iconst 0, 1) := by decide +kernel
theorem dL_giveBack_19 : decode cL_giveBack 19 = .ok (.ireturn, 1) := by decide +kernel
theorem dL_assign_0 : decode cL_assign 0 = .ok (.aload_n 3, 1) := by decide +kernel
theorem dL_assign_1 : decode cL_assign 1 = .ok (.iconst 0, 1) := by decide +kernel
theorem dL_assign_2 : decode cL_assign 2 = .ok (.aload_n 0, 1) := by decide +kernel
theorem dL_assign_3 : decode cL_assign 3 = .ok (.iload_n 1, 1) := by decide +kernel
theorem dL_assign_4 : decode cL_assign 4 = .ok (.iload_n 2, 1) := by decide +kernel
theorem dL_assign_5 : decode cL_assign 5 = .ok (.invokevirtual 21, 3) := by decide +kernel
theorem dL_assign_8 : decode cL_assign 8 = .ok (.i2l, 1) := by decide +kernel
theorem dL_assign_9 : decode cL_assign 9 = .ok (.lastore, 1) := by decide +kernel
theorem dL_assign_10 : decode cL_assign 10 = .ok (.goto 15, 3) := by decide +kernel
theorem dL_assign_13 : decode cL_assign 13 = .ok (.astore 4, 2) := by decide +kernel
theorem dL_assign_15 : decode cL_assign 15 = .ok (.iconst 1, 1) := by decide +kernel
theorem dL_assign_16 : decode cL_assign 16 = .ok (.ireturn, 1) := by decide +kernel
theorem dL_assign_17 : decode cL_assign 17 = .ok (.astore 4, 2) := by decide +kernel
theorem dL_assign_19 : decode cL_assign 19 = .ok (.iconst 2, 1) := by decide +kernel
theorem dL_assign_20 : decode cL_assign 20 = .ok (.ireturn, 1) := by decide +kernel
theorem dL_assign_21 : decode cL_assign 21 = .ok (.astore 4, 2) := by decide +kernel
theorem dL_assign_23 : decode cL_assign 23 = .ok (.iconst 3, 1) := by decide +kernel
theorem dL_assign_24 : decode cL_assign 24 = .ok (.ireturn, 1) := by decide +kernel
theorem dL_assign_25 : decode cL_assign 25 = .ok (.iconst 0, 1) := by decide +kernel
theorem dL_assign_26 : decode cL_assign 26 = .ok (.ireturn, 1) := by decide +kernel
theorem dL_end_0 : decode cL_end 0 = .ok (.aload_n 2, 1) := by decide +kernel
theorem dL_end_1 : decode cL_end 1 = .ok (.iconst 0, 1) := by decide +kernel
theorem dL_end_2 : decode cL_end 2 = .ok (.aload_n 0, 1) := by decide +kernel
theorem dL_end_3 : decode cL_end 3 = .ok (.iload_n 1, 1) := by decide +kernel
theorem dL_end_4 : decode cL_end 4 = .ok (.invokevirtual 26, 3) := by decide +kernel
theorem dL_end_7 : decode cL_end 7 = .ok (.i2l, 1) := by decide +kernel
theorem dL_end_8 : decode cL_end 8 = .ok (.lastore, 1) := by decide +kernel
theorem dL_end_9 : decode cL_end 9 = .ok (.goto 9, 3) := by decide +kernel
theorem dL_end_12 : decode cL_end 12 = .ok (.astore_n 3, 1) := by decide +kernel
theorem dL_end_13 : decode cL_end 13 = .ok (.iconst 1, 1) := by decide +kernel
theorem dL_end_14 : decode cL_end 14 = .ok (.ireturn, 1) := by decide +kernel
theorem dL_end_15 : decode cL_end 15 = .ok (.astore_n 3, 1) := by decide +kernel
theorem dL_end_16 : decode cL_end 16 = .ok (.iconst 2, 1) := by decide +kernel
theorem dL_end_17 : decode cL_end 17 = .ok (.ireturn, 1) := by decide +kernel
theorem dL_end_18 : decode cL_end 18 = .ok (.iconst 0, 1) := by decide +kernel
theorem dL_end_19 : decode cL_end 19 = .ok (.ireturn, 1) := by decide +kernel
theorem dL_swap_0 : decode cL_swap 0 = .ok (.aload_n 3, 1) := by decide +kernel
theorem dL_swap_1 : decode cL_swap 1 = .ok (.iconst 0, 1) := by decide +kernel
theorem dL_swap_2 : decode cL_swap 2 = .ok (.aload_n 0, 1) := by decide +kernel
theorem dL_swap_3 : decode cL_swap 3 = .ok (.iload_n 1, 1) := by decide +kernel
theorem dL_swap_4 : decode cL_swap 4 = .ok (.iload_n 2, 1) := by decide +kernel
theorem dL_swap_5 : decode cL_swap 5 = .ok (.invokevirtual 29, 3) := by decide +kernel
theorem dL_swap_8 : decode cL_swap 8 = .ok (.i2l, 1) := by decide +kernel
theorem dL_swap_9 : decode cL_swap 9 = .ok (.lastore, 1) := by decide +kernel
theorem dL_swap_10 : decode cL_swap 10 = .ok (.goto 15, 3) := by decide +kernel
theorem dL_swap_13 : decode cL_swap 13 = .ok (.astore 4, 2) := by decide +kernel
theorem dL_swap_15 : decode cL_swap 15 = .ok (.iconst 1, 1) := by decide +kernel
theorem dL_swap_16 : decode cL_swap 16 = .ok (.ireturn, 1) := by decide +kernel
theorem dL_swap_17 : decode cL_swap 17 = .ok (.astore 4, 2) := by decide +kernel
theorem dL_swap_19 : decode cL_swap 19 = .ok (.iconst 2, 1) := by decide +kernel
theorem dL_swap_20 : decode cL_swap 20 = .ok (.ireturn, 1) := by decide +kernel
theorem dL_swap_21 : decode cL_swap 21 = .ok (.astore 4, 2) := by decide +kernel
theorem dL_swap_23 : decode cL_swap 23 = .ok (.iconst 3, 1) := by decide +kernel
theorem dL_swap_24 : decode cL_swap 24 = .ok (.ireturn, 1) := by decide +kernel
theorem dL_swap_25 : decode cL_swap 25 = .ok (.iconst 0, 1) := by decide +kernel
theorem dL_swap_26 : decode cL_swap 26 = .ok (.ireturn, 1) := by decide +kernel
theorem dL_emergency_0 : decode cL_emergency 0 = .ok (.aload_n 2, 1) := by decide +kernel
theorem dL_emergency_1 : decode cL_emergency 1 = .ok (.iconst 0, 1) := by decide +kernel
theorem dL_emergency_2 : decode cL_emergency 2 = .ok (.aload_n 0, 1) := by decide +kernel
theorem dL_emergency_3 : decode cL_emergency 3 = .ok (.iload_n 1, 1) := by decide +kernel
theorem dL_emergency_4 : decode cL_emergency 4 = .ok (.invokevirtual 32, 3) := by decide +kernel
theorem dL_emergency_7 : decode cL_emergency 7 = .ok (.i2l, 1) := by decide +kernel
theorem dL_emergency_8 : decode cL_emergency 8 = .ok (.lastore, 1) := by decide +kernel
theorem dL_emergency_9 : decode cL_emergency 9 = .ok (.goto 9, 3) := by decide +kernel
theorem dL_emergency_12 : decode cL_emergency 12 = .ok (.astore_n 3, 1) := by decide +kernel
theorem dL_emergency_13 : decode cL_emergency 13 = .ok (.iconst 1, 1) := by decide +kernel
theorem dL_emergency_14 : decode cL_emergency 14 = .ok (.ireturn, 1) := by decide +kernel
theorem dL_emergency_15 : decode cL_emergency 15 = .ok (.astore_n 3, 1) := by decide +kernel
theorem dL_emergency_16 : decode cL_emergency 16 = .ok (.iconst 2, 1) := by decide +kernel
theorem dL_emergency_17 : decode cL_emergency 17 = .ok (.ireturn, 1) := by decide +kernel
theorem dL_emergency_18 : decode cL_emergency 18 = .ok (.iconst 0, 1) := by decide +kernel
theorem dL_emergency_19 : decode cL_emergency 19 = .ok (.ireturn, 1) := by decide +kernel
theorem dL_endFirm_0 : decode cL_endFirm 0 = .ok (.aload_n 3, 1) := by decide +kernel
theorem dL_endFirm_1 : decode cL_endFirm 1 = .ok (.iconst 0, 1) := by decide +kernel
theorem dL_endFirm_2 : decode cL_endFirm 2 = .ok (.aload_n 0, 1) := by decide +kernel
theorem dL_endFirm_3 : decode cL_endFirm 3 = .ok (.iload_n 1, 1) := by decide +kernel
theorem dL_endFirm_4 : decode cL_endFirm 4 = .ok (.iload_n 2, 1) := by decide +kernel
theorem dL_endFirm_5 : decode cL_endFirm 5 = .ok (.invokevirtual 35, 3) := by decide +kernel
theorem dL_endFirm_8 : decode cL_endFirm 8 = .ok (.i2l, 1) := by decide +kernel
theorem dL_endFirm_9 : decode cL_endFirm 9 = .ok (.lastore, 1) := by decide +kernel
theorem dL_endFirm_10 : decode cL_endFirm 10 = .ok (.goto 15, 3) := by decide +kernel
theorem dL_endFirm_13 : decode cL_endFirm 13 = .ok (.astore 4, 2) := by decide +kernel
theorem dL_endFirm_15 : decode cL_endFirm 15 = .ok (.iconst 1, 1) := by decide +kernel
theorem dL_endFirm_16 : decode cL_endFirm 16 = .ok (.ireturn, 1) := by decide +kernel
theorem dL_endFirm_17 : decode cL_endFirm 17 = .ok (.astore 4, 2) := by decide +kernel
theorem dL_endFirm_19 : decode cL_endFirm 19 = .ok (.iconst 2, 1) := by decide +kernel
theorem dL_endFirm_20 : decode cL_endFirm 20 = .ok (.ireturn, 1) := by decide +kernel
theorem dL_endFirm_21 : decode cL_endFirm 21 = .ok (.astore 4, 2) := by decide +kernel
theorem dL_endFirm_23 : decode cL_endFirm 23 = .ok (.iconst 3, 1) := by decide +kernel
theorem dL_endFirm_24 : decode cL_endFirm 24 = .ok (.ireturn, 1) := by decide +kernel
theorem dL_endFirm_25 : decode cL_endFirm 25 = .ok (.iconst 0, 1) := by decide +kernel
theorem dL_endFirm_26 : decode cL_endFirm 26 = .ok (.ireturn, 1) := by decide +kernel
theorem dL_order_0 : decode cL_order 0 = .ok (.aload 5, 2) := by decide +kernel
theorem dL_order_2 : decode cL_order 2 = .ok (.iconst 0, 1) := by decide +kernel
theorem dL_order_3 : decode cL_order 3 = .ok (.aload_n 0, 1) := by decide +kernel
theorem dL_order_4 : decode cL_order 4 = .ok (.iload_n 1, 1) := by decide +kernel
theorem dL_order_5 : decode cL_order 5 = .ok (.iload_n 2, 1) := by decide +kernel
theorem dL_order_6 : decode cL_order 6 = .ok (.iload_n 3, 1) := by decide +kernel
theorem dL_order_7 : decode cL_order 7 = .ok (.iload 4, 2) := by decide +kernel
theorem dL_order_9 : decode cL_order 9 = .ok (.invokevirtual 38, 3) := by decide +kernel
theorem dL_order_12 : decode cL_order 12 = .ok (.i2l, 1) := by decide +kernel
theorem dL_order_13 : decode cL_order 13 = .ok (.lastore, 1) := by decide +kernel
theorem dL_order_14 : decode cL_order 14 = .ok (.goto 15, 3) := by decide +kernel
theorem dL_order_17 : decode cL_order 17 = .ok (.astore 6, 2) := by decide +kernel
theorem dL_order_19 : decode cL_order 19 = .ok (.iconst 1, 1) := by decide +kernel
theorem dL_order_20 : decode cL_order 20 = .ok (.ireturn, 1) := by decide +kernel
theorem dL_order_21 : decode cL_order 21 = .ok (.astore 6, 2) := by decide +kernel
theorem dL_order_23 : decode cL_order 23 = .ok (.iconst 2, 1) := by decide +kernel
theorem dL_order_24 : decode cL_order 24 = .ok (.ireturn, 1) := by decide +kernel
theorem dL_order_25 : decode cL_order 25 = .ok (.astore 6, 2) := by decide +kernel
theorem dL_order_27 : decode cL_order 27 = .ok (.iconst 3, 1) := by decide +kernel
theorem dL_order_28 : decode cL_order 28 = .ok (.ireturn, 1) := by decide +kernel
theorem dL_order_29 : decode cL_order 29 = .ok (.iconst 0, 1) := by decide +kernel
theorem dL_order_30 : decode cL_order 30 = .ok (.ireturn, 1) := by decide +kernel
theorem dL_cancel_0 : decode cL_cancel 0 = .ok (.aload_n 2, 1) := by decide +kernel
theorem dL_cancel_1 : decode cL_cancel 1 = .ok (.iconst 0, 1) := by decide +kernel
theorem dL_cancel_2 : decode cL_cancel 2 = .ok (.aload_n 0, 1) := by decide +kernel
theorem dL_cancel_3 : decode cL_cancel 3 = .ok (.iload_n 1, 1) := by decide +kernel
theorem dL_cancel_4 : decode cL_cancel 4 = .ok (.invokevirtual 42, 3) := by decide +kernel
theorem dL_cancel_7 : decode cL_cancel 7 = .ok (.i2l, 1) := by decide +kernel
theorem dL_cancel_8 : decode cL_cancel 8 = .ok (.lastore, 1) := by decide +kernel
theorem dL_cancel_9 : decode cL_cancel 9 = .ok (.goto 9, 3) := by decide +kernel
theorem dL_cancel_12 : decode cL_cancel 12 = .ok (.astore_n 3, 1) := by decide +kernel
theorem dL_cancel_13 : decode cL_cancel 13 = .ok (.iconst 1, 1) := by decide +kernel
theorem dL_cancel_14 : decode cL_cancel 14 = .ok (.ireturn, 1) := by decide +kernel
theorem dL_cancel_15 : decode cL_cancel 15 = .ok (.astore_n 3, 1) := by decide +kernel
theorem dL_cancel_16 : decode cL_cancel 16 = .ok (.iconst 2, 1) := by decide +kernel
theorem dL_cancel_17 : decode cL_cancel 17 = .ok (.ireturn, 1) := by decide +kernel
theorem dL_cancel_18 : decode cL_cancel 18 = .ok (.iconst 0, 1) := by decide +kernel
theorem dL_cancel_19 : decode cL_cancel 19 = .ok (.ireturn, 1) := by decide +kernel
theorem dL_reverse_0 : decode cL_reverse 0 = .ok (.aload_n 2, 1) := by decide +kernel
theorem dL_reverse_1 : decode cL_reverse 1 = .ok (.iconst 0, 1) := by decide +kernel
theorem dL_reverse_2 : decode cL_reverse 2 = .ok (.aload_n 0, 1) := by decide +kernel
theorem dL_reverse_3 : decode cL_reverse 3 = .ok (.iload_n 1, 1) := by decide +kernel
theorem dL_reverse_4 : decode cL_reverse 4 = .ok (.invokevirtual 45, 3) := by decide +kernel
theorem dL_reverse_7 : decode cL_reverse 7 = .ok (.i2l, 1) := by decide +kernel
theorem dL_reverse_8 : decode cL_reverse 8 = .ok (.lastore, 1) := by decide +kernel
theorem dL_reverse_9 : decode cL_reverse 9 = .ok (.goto 9, 3) := by decide +kernel
theorem dL_reverse_12 : decode cL_reverse 12 = .ok (.astore_n 3, 1) := by decide +kernel
theorem dL_reverse_13 : decode cL_reverse 13 = .ok (.iconst 1, 1) := by decide +kernel
theorem dL_reverse_14 : decode cL_reverse 14 = .ok (.ireturn, 1) := by decide +kernel
theorem dL_reverse_15 : decode cL_reverse 15 = .ok (.astore_n 3, 1) := by decide +kernel
theorem dL_reverse_16 : decode cL_reverse 16 = .ok (.iconst 2, 1) := by decide +kernel
theorem dL_reverse_17 : decode cL_reverse 17 = .ok (.ireturn, 1) := by decide +kernel
theorem dL_reverse_18 : decode cL_reverse 18 = .ok (.iconst 0, 1) := by decide +kernel
theorem dL_reverse_19 : decode cL_reverse 19 = .ok (.ireturn, 1) := by decide +kernel
theorem dL_pass_0 : decode cL_pass 0 = .ok (.aload_n 2, 1) := by decide +kernel
theorem dL_pass_1 : decode cL_pass 1 = .ok (.iconst 0, 1) := by decide +kernel
theorem dL_pass_2 : decode cL_pass 2 = .ok (.aload_n 0, 1) := by decide +kernel
theorem dL_pass_3 : decode cL_pass 3 = .ok (.iload_n 1, 1) := by decide +kernel
theorem dL_pass_4 : decode cL_pass 4 = .ok (.invokevirtual 48, 3) := by decide +kernel
theorem dL_pass_7 : decode cL_pass 7 = .ok (.i2l, 1) := by decide +kernel
theorem dL_pass_8 : decode cL_pass 8 = .ok (.lastore, 1) := by decide +kernel
theorem dL_pass_9 : decode cL_pass 9 = .ok (.goto 9, 3) := by decide +kernel
theorem dL_pass_12 : decode cL_pass 12 = .ok (.astore_n 3, 1) := by decide +kernel
theorem dL_pass_13 : decode cL_pass 13 = .ok (.iconst 1, 1) := by decide +kernel
theorem dL_pass_14 : decode cL_pass 14 = .ok (.ireturn, 1) := by decide +kernel
theorem dL_pass_15 : decode cL_pass 15 = .ok (.astore_n 3, 1) := by decide +kernel
theorem dL_pass_16 : decode cL_pass 16 = .ok (.iconst 2, 1) := by decide +kernel
theorem dL_pass_17 : decode cL_pass 17 = .ok (.ireturn, 1) := by decide +kernel
theorem dL_pass_18 : decode cL_pass 18 = .ok (.iconst 0, 1) := by decide +kernel
theorem dL_pass_19 : decode cL_pass 19 = .ok (.ireturn, 1) := by decide +kernel
theorem dL_setLag_0 : decode cL_setLag 0 = .ok (.aload_n 3, 1) := by decide +kernel
theorem dL_setLag_1 : decode cL_setLag 1 = .ok (.iconst 0, 1) := by decide +kernel
theorem dL_setLag_2 : decode cL_setLag 2 = .ok (.aload_n 0, 1) := by decide +kernel
theorem dL_setLag_3 : decode cL_setLag 3 = .ok (.iload_n 1, 1) := by decide +kernel
theorem dL_setLag_4 : decode cL_setLag 4 = .ok (.iload_n 2, 1) := by decide +kernel
theorem dL_setLag_5 : decode cL_setLag 5 = .ok (.invokevirtual 51, 3) := by decide +kernel
theorem dL_setLag_8 : decode cL_setLag 8 = .ok (.i2l, 1) := by decide +kernel
theorem dL_setLag_9 : decode cL_setLag 9 = .ok (.lastore, 1) := by decide +kernel
theorem dL_setLag_10 : decode cL_setLag 10 = .ok (.goto 11, 3) := by decide +kernel
theorem dL_setLag_13 : decode cL_setLag 13 = .ok (.astore 4, 2) := by decide +kernel
theorem dL_setLag_15 : decode cL_setLag 15 = .ok (.iconst 1, 1) := by decide +kernel
theorem dL_setLag_16 : decode cL_setLag 16 = .ok (.ireturn, 1) := by decide +kernel
theorem dL_setLag_17 : decode cL_setLag 17 = .ok (.astore 4, 2) := by decide +kernel
theorem dL_setLag_19 : decode cL_setLag 19 = .ok (.iconst 2, 1) := by decide +kernel
theorem dL_setLag_20 : decode cL_setLag 20 = .ok (.ireturn, 1) := by decide +kernel
theorem dL_setLag_21 : decode cL_setLag 21 = .ok (.iconst 0, 1) := by decide +kernel
theorem dL_setLag_22 : decode cL_setLag 22 = .ok (.ireturn, 1) := by decide +kernel
theorem dL_setDown_0 : decode cL_setDown 0 = .ok (.aload_n 3, 1) := by decide +kernel
theorem dL_setDown_1 : decode cL_setDown 1 = .ok (.iconst 0, 1) := by decide +kernel
theorem dL_setDown_2 : decode cL_setDown 2 = .ok (.aload_n 0, 1) := by decide +kernel
theorem dL_setDown_3 : decode cL_setDown 3 = .ok (.iload_n 1, 1) := by decide +kernel
theorem dL_setDown_4 : decode cL_setDown 4 = .ok (.iload_n 2, 1) := by decide +kernel
theorem dL_setDown_5 : decode cL_setDown 5 = .ok (.invokevirtual 54, 3) := by decide +kernel
theorem dL_setDown_8 : decode cL_setDown 8 = .ok (.ifCond .eq 7, 3) := by decide +kernel
theorem dL_setDown_11 : decode cL_setDown 11 = .ok (.lconst 1, 1) := by decide +kernel
theorem dL_setDown_12 : decode cL_setDown 12 = .ok (.goto 4, 3) := by decide +kernel
theorem dL_setDown_15 : decode cL_setDown 15 = .ok (.lconst 0, 1) := by decide +kernel
theorem dL_setDown_16 : decode cL_setDown 16 = .ok (.lastore, 1) := by decide +kernel
theorem dL_setDown_17 : decode cL_setDown 17 = .ok (.goto 7, 3) := by decide +kernel
theorem dL_setDown_20 : decode cL_setDown 20 = .ok (.astore 4, 2) := by decide +kernel
theorem dL_setDown_22 : decode cL_setDown 22 = .ok (.iconst 1, 1) := by decide +kernel
theorem dL_setDown_23 : decode cL_setDown 23 = .ok (.ireturn, 1) := by decide +kernel
theorem dL_setDown_24 : decode cL_setDown 24 = .ok (.iconst 0, 1) := by decide +kernel
theorem dL_setDown_25 : decode cL_setDown 25 = .ok (.ireturn, 1) := by decide +kernel
theorem dL_correct_0 : decode cL_correct 0 = .ok (.aload_n 2, 1) := by decide +kernel
theorem dL_correct_1 : decode cL_correct 1 = .ok (.iconst 0, 1) := by decide +kernel
theorem dL_correct_2 : decode cL_correct 2 = .ok (.aload_n 0, 1) := by decide +kernel
theorem dL_correct_3 : decode cL_correct 3 = .ok (.iload_n 1, 1) := by decide +kernel
theorem dL_correct_4 : decode cL_correct 4 = .ok (.invokevirtual 58, 3) := by decide +kernel
theorem dL_correct_7 : decode cL_correct 7 = .ok (.i2l, 1) := by decide +kernel
theorem dL_correct_8 : decode cL_correct 8 = .ok (.lastore, 1) := by decide +kernel
theorem dL_correct_9 : decode cL_correct 9 = .ok (.goto 6, 3) := by decide +kernel
theorem dL_correct_12 : decode cL_correct 12 = .ok (.astore_n 3, 1) := by decide +kernel
theorem dL_correct_13 : decode cL_correct 13 = .ok (.iconst 1, 1) := by decide +kernel
theorem dL_correct_14 : decode cL_correct 14 = .ok (.ireturn, 1) := by decide +kernel
theorem dL_correct_15 : decode cL_correct 15 = .ok (.iconst 0, 1) := by decide +kernel
theorem dL_correct_16 : decode cL_correct 16 = .ok (.ireturn, 1) := by decide +kernel
theorem dL_server_0 : decode cL_server 0 = .ok (.aload_n 2, 1) := by decide +kernel
theorem dL_server_1 : decode cL_server 1 = .ok (.iconst 0, 1) := by decide +kernel
theorem dL_server_2 : decode cL_server 2 = .ok (.aload_n 0, 1) := by decide +kernel
theorem dL_server_3 : decode cL_server 3 = .ok (.iload_n 1, 1) := by decide +kernel
theorem dL_server_4 : decode cL_server 4 = .ok (.invokevirtual 61, 3) := by decide +kernel
theorem dL_server_7 : decode cL_server 7 = .ok (.i2l, 1) := by decide +kernel
theorem dL_server_8 : decode cL_server 8 = .ok (.lastore, 1) := by decide +kernel
theorem dL_server_9 : decode cL_server 9 = .ok (.goto 6, 3) := by decide +kernel
theorem dL_server_12 : decode cL_server 12 = .ok (.astore_n 3, 1) := by decide +kernel
theorem dL_server_13 : decode cL_server 13 = .ok (.iconst 1, 1) := by decide +kernel
theorem dL_server_14 : decode cL_server 14 = .ok (.ireturn, 1) := by decide +kernel
theorem dL_server_15 : decode cL_server 15 = .ok (.iconst 0, 1) := by decide +kernel
theorem dL_server_16 : decode cL_server 16 = .ok (.ireturn, 1) := by decide +kernel
theorem dL_serverAnew_0 : decode cL_serverAnew 0 = .ok (.aload_n 2, 1) := by decide +kernel
theorem dL_serverAnew_1 : decode cL_serverAnew 1 = .ok (.iconst 0, 1) := by decide +kernel
theorem dL_serverAnew_2 : decode cL_serverAnew 2 = .ok (.aload_n 0, 1) := by decide +kernel
theorem dL_serverAnew_3 : decode cL_serverAnew 3 = .ok (.iload_n 1, 1) := by decide +kernel
theorem dL_serverAnew_4 : decode cL_serverAnew 4 = .ok (.invokevirtual 64, 3) := by decide +kernel
theorem dL_serverAnew_7 : decode cL_serverAnew 7 = .ok (.i2l, 1) := by decide +kernel
theorem dL_serverAnew_8 : decode cL_serverAnew 8 = .ok (.lastore, 1) := by decide +kernel
theorem dL_serverAnew_9 : decode cL_serverAnew 9 = .ok (.goto 6, 3) := by decide +kernel
theorem dL_serverAnew_12 : decode cL_serverAnew 12 = .ok (.astore_n 3, 1) := by decide +kernel
theorem dL_serverAnew_13 : decode cL_serverAnew 13 = .ok (.iconst 1, 1) := by decide +kernel
theorem dL_serverAnew_14 : decode cL_serverAnew 14 = .ok (.ireturn, 1) := by decide +kernel
theorem dL_serverAnew_15 : decode cL_serverAnew 15 = .ok (.iconst 0, 1) := by decide +kernel
theorem dL_serverAnew_16 : decode cL_serverAnew 16 = .ok (.ireturn, 1) := by decide +kernel
theorem dL_number_0 : decode cL_number 0 = .ok (.aload_n 3, 1) := by decide +kernel
theorem dL_number_1 : decode cL_number 1 = .ok (.iconst 0, 1) := by decide +kernel
theorem dL_number_2 : decode cL_number 2 = .ok (.aload_n 0, 1) := by decide +kernel
theorem dL_number_3 : decode cL_number 3 = .ok (.iload_n 1, 1) := by decide +kernel
theorem dL_number_4 : decode cL_number 4 = .ok (.iload_n 2, 1) := by decide +kernel
theorem dL_number_5 : decode cL_number 5 = .ok (.invokevirtual 67, 3) := by decide +kernel
theorem dL_number_8 : decode cL_number 8 = .ok (.i2l, 1) := by decide +kernel
theorem dL_number_9 : decode cL_number 9 = .ok (.lastore, 1) := by decide +kernel
theorem dL_number_10 : decode cL_number 10 = .ok (.goto 11, 3) := by decide +kernel
theorem dL_number_13 : decode cL_number 13 = .ok (.astore 4, 2) := by decide +kernel
theorem dL_number_15 : decode cL_number 15 = .ok (.iconst 1, 1) := by decide +kernel
theorem dL_number_16 : decode cL_number 16 = .ok (.ireturn, 1) := by decide +kernel
theorem dL_number_17 : decode cL_number 17 = .ok (.astore 4, 2) := by decide +kernel
theorem dL_number_19 : decode cL_number 19 = .ok (.iconst 2, 1) := by decide +kernel
theorem dL_number_20 : decode cL_number 20 = .ok (.ireturn, 1) := by decide +kernel
theorem dL_number_21 : decode cL_number 21 = .ok (.iconst 0, 1) := by decide +kernel
theorem dL_number_22 : decode cL_number 22 = .ok (.ireturn, 1) := by decide +kernel
theorem dL_of_0 : decode cL_of 0 = .ok (.aload_n 3, 1) := by decide +kernel
theorem dL_of_1 : decode cL_of 1 = .ok (.iconst 0, 1) := by decide +kernel
theorem dL_of_2 : decode cL_of 2 = .ok (.aload_n 0, 1) := by decide +kernel
theorem dL_of_3 : decode cL_of 3 = .ok (.iload_n 1, 1) := by decide +kernel
theorem dL_of_4 : decode cL_of 4 = .ok (.iload_n 2, 1) := by decide +kernel
theorem dL_of_5 : decode cL_of 5 = .ok (.invokevirtual 70, 3) := by decide +kernel
theorem dL_of_8 : decode cL_of 8 = .ok (.i2l, 1) := by decide +kernel
theorem dL_of_9 : decode cL_of 9 = .ok (.lastore, 1) := by decide +kernel
theorem dL_of_10 : decode cL_of 10 = .ok (.goto 11, 3) := by decide +kernel
theorem dL_of_13 : decode cL_of 13 = .ok (.astore 4, 2) := by decide +kernel
theorem dL_of_15 : decode cL_of 15 = .ok (.iconst 1, 1) := by decide +kernel
theorem dL_of_16 : decode cL_of 16 = .ok (.ireturn, 1) := by decide +kernel
theorem dL_of_17 : decode cL_of 17 = .ok (.astore 4, 2) := by decide +kernel
theorem dL_of_19 : decode cL_of 19 = .ok (.iconst 2, 1) := by decide +kernel
theorem dL_of_20 : decode cL_of 20 = .ok (.ireturn, 1) := by decide +kernel
theorem dL_of_21 : decode cL_of 21 = .ok (.iconst 0, 1) := by decide +kernel
theorem dL_of_22 : decode cL_of 22 = .ok (.ireturn, 1) := by decide +kernel
theorem dL_room_0 : decode cL_room 0 = .ok (.aload_n 2, 1) := by decide +kernel
theorem dL_room_1 : decode cL_room 1 = .ok (.iconst 0, 1) := by decide +kernel
theorem dL_room_2 : decode cL_room 2 = .ok (.aload_n 0, 1) := by decide +kernel
theorem dL_room_3 : decode cL_room 3 = .ok (.iload_n 1, 1) := by decide +kernel
theorem dL_room_4 : decode cL_room 4 = .ok (.invokevirtual 73, 3) := by decide +kernel
theorem dL_room_7 : decode cL_room 7 = .ok (.i2l, 1) := by decide +kernel
theorem dL_room_8 : decode cL_room 8 = .ok (.lastore, 1) := by decide +kernel
theorem dL_room_9 : decode cL_room 9 = .ok (.goto 6, 3) := by decide +kernel
theorem dL_room_12 : decode cL_room 12 = .ok (.astore_n 3, 1) := by decide +kernel
theorem dL_room_13 : decode cL_room 13 = .ok (.iconst 1, 1) := by decide +kernel
theorem dL_room_14 : decode cL_room 14 = .ok (.ireturn, 1) := by decide +kernel
theorem dL_room_15 : decode cL_room 15 = .ok (.iconst 0, 1) := by decide +kernel
theorem dL_room_16 : decode cL_room 16 = .ok (.ireturn, 1) := by decide +kernel
theorem dL_firm_0 : decode cL_firm 0 = .ok (.aload_n 3, 1) := by decide +kernel
theorem dL_firm_1 : decode cL_firm 1 = .ok (.iconst 0, 1) := by decide +kernel
theorem dL_firm_2 : decode cL_firm 2 = .ok (.aload_n 0, 1) := by decide +kernel
theorem dL_firm_3 : decode cL_firm 3 = .ok (.iload_n 1, 1) := by decide +kernel
theorem dL_firm_4 : decode cL_firm 4 = .ok (.iload_n 2, 1) := by decide +kernel
theorem dL_firm_5 : decode cL_firm 5 = .ok (.invokevirtual 76, 3) := by decide +kernel
theorem dL_firm_8 : decode cL_firm 8 = .ok (.i2l, 1) := by decide +kernel
theorem dL_firm_9 : decode cL_firm 9 = .ok (.lastore, 1) := by decide +kernel
theorem dL_firm_10 : decode cL_firm 10 = .ok (.goto 11, 3) := by decide +kernel
theorem dL_firm_13 : decode cL_firm 13 = .ok (.astore 4, 2) := by decide +kernel
theorem dL_firm_15 : decode cL_firm 15 = .ok (.iconst 1, 1) := by decide +kernel
theorem dL_firm_16 : decode cL_firm 16 = .ok (.ireturn, 1) := by decide +kernel
theorem dL_firm_17 : decode cL_firm 17 = .ok (.astore 4, 2) := by decide +kernel
theorem dL_firm_19 : decode cL_firm 19 = .ok (.iconst 2, 1) := by decide +kernel
theorem dL_firm_20 : decode cL_firm 20 = .ok (.ireturn, 1) := by decide +kernel
theorem dL_firm_21 : decode cL_firm 21 = .ok (.iconst 0, 1) := by decide +kernel
theorem dL_firm_22 : decode cL_firm 22 = .ok (.ireturn, 1) := by decide +kernel
theorem dL_known_0 : decode cL_known 0 = .ok (.aload_n 3, 1) := by decide +kernel
theorem dL_known_1 : decode cL_known 1 = .ok (.iconst 0, 1) := by decide +kernel
theorem dL_known_2 : decode cL_known 2 = .ok (.aload_n 0, 1) := by decide +kernel
theorem dL_known_3 : decode cL_known 3 = .ok (.iload_n 1, 1) := by decide +kernel
theorem dL_known_4 : decode cL_known 4 = .ok (.iload_n 2, 1) := by decide +kernel
theorem dL_known_5 : decode cL_known 5 = .ok (.invokevirtual 79, 3) := by decide +kernel
theorem dL_known_8 : decode cL_known 8 = .ok (.i2l, 1) := by decide +kernel
theorem dL_known_9 : decode cL_known 9 = .ok (.lastore, 1) := by decide +kernel
theorem dL_known_10 : decode cL_known 10 = .ok (.goto 7, 3) := by decide +kernel
theorem dL_known_13 : decode cL_known 13 = .ok (.astore 4, 2) := by decide +kernel
theorem dL_known_15 : decode cL_known 15 = .ok (.iconst 1, 1) := by decide +kernel
theorem dL_known_16 : decode cL_known 16 = .ok (.ireturn, 1) := by decide +kernel
theorem dL_known_17 : decode cL_known 17 = .ok (.iconst 0, 1) := by decide +kernel
theorem dL_known_18 : decode cL_known 18 = .ok (.ireturn, 1) := by decide +kernel
theorem dL_audit_0 : decode cL_audit 0 = .ok (.aload_n 2, 1) := by decide +kernel
theorem dL_audit_1 : decode cL_audit 1 = .ok (.iconst 0, 1) := by decide +kernel
theorem dL_audit_2 : decode cL_audit 2 = .ok (.aload_n 0, 1) := by decide +kernel
theorem dL_audit_3 : decode cL_audit 3 = .ok (.iload_n 1, 1) := by decide +kernel
theorem dL_audit_4 : decode cL_audit 4 = .ok (.invokevirtual 82, 3) := by decide +kernel
theorem dL_audit_7 : decode cL_audit 7 = .ok (.i2l, 1) := by decide +kernel
theorem dL_audit_8 : decode cL_audit 8 = .ok (.lastore, 1) := by decide +kernel
theorem dL_audit_9 : decode cL_audit 9 = .ok (.goto 6, 3) := by decide +kernel
theorem dL_audit_12 : decode cL_audit 12 = .ok (.astore_n 3, 1) := by decide +kernel
theorem dL_audit_13 : decode cL_audit 13 = .ok (.iconst 1, 1) := by decide +kernel
theorem dL_audit_14 : decode cL_audit 14 = .ok (.ireturn, 1) := by decide +kernel
theorem dL_audit_15 : decode cL_audit 15 = .ok (.iconst 0, 1) := by decide +kernel
theorem dL_audit_16 : decode cL_audit 16 = .ok (.ireturn, 1) := by decide +kernel
theorem dL_hop_0 : decode cL_hop 0 = .ok (.aload 5, 2) := by decide +kernel
theorem dL_hop_2 : decode cL_hop 2 = .ok (.iconst 0, 1) := by decide +kernel
theorem dL_hop_3 : decode cL_hop 3 = .ok (.aload_n 0, 1) := by decide +kernel
theorem dL_hop_4 : decode cL_hop 4 = .ok (.iload_n 1, 1) := by decide +kernel
theorem dL_hop_5 : decode cL_hop 5 = .ok (.iload_n 2, 1) := by decide +kernel
theorem dL_hop_6 : decode cL_hop 6 = .ok (.iload_n 3, 1) := by decide +kernel
theorem dL_hop_7 : decode cL_hop 7 = .ok (.iload 4, 2) := by decide +kernel
theorem dL_hop_9 : decode cL_hop 9 = .ok (.invokevirtual 85, 3) := by decide +kernel
theorem dL_hop_12 : decode cL_hop 12 = .ok (.i2l, 1) := by decide +kernel
theorem dL_hop_13 : decode cL_hop 13 = .ok (.lastore, 1) := by decide +kernel
theorem dL_hop_14 : decode cL_hop 14 = .ok (.goto 11, 3) := by decide +kernel
theorem dL_hop_17 : decode cL_hop 17 = .ok (.astore 6, 2) := by decide +kernel
theorem dL_hop_19 : decode cL_hop 19 = .ok (.iconst 1, 1) := by decide +kernel
theorem dL_hop_20 : decode cL_hop 20 = .ok (.ireturn, 1) := by decide +kernel
theorem dL_hop_21 : decode cL_hop 21 = .ok (.astore 6, 2) := by decide +kernel
theorem dL_hop_23 : decode cL_hop 23 = .ok (.iconst 2, 1) := by decide +kernel
theorem dL_hop_24 : decode cL_hop 24 = .ok (.ireturn, 1) := by decide +kernel
theorem dL_hop_25 : decode cL_hop 25 = .ok (.iconst 0, 1) := by decide +kernel
theorem dL_hop_26 : decode cL_hop 26 = .ok (.ireturn, 1) := by decide +kernel
theorem dL_why_0 : decode cL_why 0 = .ok (.aload 4, 2) := by decide +kernel
theorem dL_why_2 : decode cL_why 2 = .ok (.iconst 0, 1) := by decide +kernel
theorem dL_why_3 : decode cL_why 3 = .ok (.aload_n 0, 1) := by decide +kernel
theorem dL_why_4 : decode cL_why 4 = .ok (.iload_n 1, 1) := by decide +kernel
theorem dL_why_5 : decode cL_why 5 = .ok (.iload_n 2, 1) := by decide +kernel
theorem dL_why_6 : decode cL_why 6 = .ok (.iload_n 3, 1) := by decide +kernel
theorem dL_why_7 : decode cL_why 7 = .ok (.invokevirtual 88, 3) := by decide +kernel
theorem dL_why_10 : decode cL_why 10 = .ok (.i2l, 1) := by decide +kernel
theorem dL_why_11 : decode cL_why 11 = .ok (.lastore, 1) := by decide +kernel
theorem dL_why_12 : decode cL_why 12 = .ok (.goto 11, 3) := by decide +kernel
theorem dL_why_15 : decode cL_why 15 = .ok (.astore 5, 2) := by decide +kernel
theorem dL_why_17 : decode cL_why 17 = .ok (.iconst 1, 1) := by decide +kernel
theorem dL_why_18 : decode cL_why 18 = .ok (.ireturn, 1) := by decide +kernel
theorem dL_why_19 : decode cL_why 19 = .ok (.astore 5, 2) := by decide +kernel
theorem dL_why_21 : decode cL_why 21 = .ok (.iconst 2, 1) := by decide +kernel
theorem dL_why_22 : decode cL_why 22 = .ok (.ireturn, 1) := by decide +kernel
theorem dL_why_23 : decode cL_why 23 = .ok (.iconst 0, 1) := by decide +kernel
theorem dL_why_24 : decode cL_why 24 = .ok (.ireturn, 1) := by decide +kernel
theorem dL_dial_0 : decode cL_dial 0 = .ok (.aload 4, 2) := by decide +kernel
theorem dL_dial_2 : decode cL_dial 2 = .ok (.iconst 0, 1) := by decide +kernel
theorem dL_dial_3 : decode cL_dial 3 = .ok (.aload_n 0, 1) := by decide +kernel
theorem dL_dial_4 : decode cL_dial 4 = .ok (.iload_n 1, 1) := by decide +kernel
theorem dL_dial_5 : decode cL_dial 5 = .ok (.iload_n 2, 1) := by decide +kernel
theorem dL_dial_6 : decode cL_dial 6 = .ok (.iload_n 3, 1) := by decide +kernel
theorem dL_dial_7 : decode cL_dial 7 = .ok (.invokevirtual 92, 3) := by decide +kernel
theorem dL_dial_10 : decode cL_dial 10 = .ok (.i2l, 1) := by decide +kernel
theorem dL_dial_11 : decode cL_dial 11 = .ok (.lastore, 1) := by decide +kernel
theorem dL_dial_12 : decode cL_dial 12 = .ok (.goto 15, 3) := by decide +kernel
theorem dL_dial_15 : decode cL_dial 15 = .ok (.astore 5, 2) := by decide +kernel
theorem dL_dial_17 : decode cL_dial 17 = .ok (.iconst 1, 1) := by decide +kernel
theorem dL_dial_18 : decode cL_dial 18 = .ok (.ireturn, 1) := by decide +kernel
theorem dL_dial_19 : decode cL_dial 19 = .ok (.astore 5, 2) := by decide +kernel
theorem dL_dial_21 : decode cL_dial 21 = .ok (.iconst 2, 1) := by decide +kernel
theorem dL_dial_22 : decode cL_dial 22 = .ok (.ireturn, 1) := by decide +kernel
theorem dL_dial_23 : decode cL_dial 23 = .ok (.astore 5, 2) := by decide +kernel
theorem dL_dial_25 : decode cL_dial 25 = .ok (.iconst 3, 1) := by decide +kernel
theorem dL_dial_26 : decode cL_dial 26 = .ok (.ireturn, 1) := by decide +kernel
theorem dL_dial_27 : decode cL_dial 27 = .ok (.iconst 0, 1) := by decide +kernel
theorem dL_dial_28 : decode cL_dial 28 = .ok (.ireturn, 1) := by decide +kernel
