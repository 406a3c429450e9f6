theorem dL_cell_0 : decode cL_cell 0 = .ok (.iload_n 1, 1) := by decide +kernel
theorem dL_cell_1 : decode cL_cell 1 = .ok (.aload_n 0, 1) := by decide +kernel
theorem dL_cell_2 : decode cL_cell 2 = .ok (.arraylength, 1) := by decide +kernel
theorem dL_cell_3 : decode cL_cell 3 = .ok (.if_icmp .ge 9, 3) := by decide +kernel
theorem dL_cell_6 : decode cL_cell 6 = .ok (.aload_n 0, 1) := by decide +kernel
theorem dL_cell_7 : decode cL_cell 7 = .ok (.iload_n 1, 1) := by decide +kernel
theorem dL_cell_8 : decode cL_cell 8 = .ok (.iaload, 1) := by decide +kernel
theorem dL_cell_9 : decode cL_cell 9 = .ok (.goto 10, 3) := by decide +kernel
theorem dL_cell_12 : decode cL_cell 12 = .ok (.ldc 7, 2) := by decide +kernel
theorem dL_cell_14 : decode cL_cell 14 = .ok (.iload_n 1, 1) := by decide +kernel
theorem dL_cell_15 : decode cL_cell 15 = .ok (.bipush 11, 2) := by decide +kernel
theorem dL_cell_17 : decode cL_cell 17 = .ok (.iadd, 1) := by decide +kernel
theorem dL_cell_18 : decode cL_cell 18 = .ok (.imul, 1) := by decide +kernel
theorem dL_cell_19 : decode cL_cell 19 = .ok (.ireturn, 1) := by decide +kernel
theorem dL_low_0 : decode cL_low 0 = .ok (.iload_n 0, 1) := by decide +kernel
theorem dL_low_1 : decode cL_low 1 = .ok (.iconst 1, 1) := by decide +kernel
theorem dL_low_2 : decode cL_low 2 = .ok (.iushr, 1) := by decide +kernel
theorem dL_low_3 : decode cL_low 3 = .ok (.iload_n 1, 1) := by decide +kernel
theorem dL_low_4 : decode cL_low 4 = .ok (.irem, 1) := by decide +kernel
theorem dL_low_5 : decode cL_low 5 = .ok (.ireturn, 1) := by decide +kernel
theorem dL_give_0 : decode cL_give 0 = .ok (.aload_n 0, 1) := by decide +kernel
theorem dL_give_1 : decode cL_give 1 = .ok (.iload_n 1, 1) := by decide +kernel
theorem dL_give_2 : decode cL_give 2 = .ok (.iload_n 2, 1) := by decide +kernel
theorem dL_give_3 : decode cL_give 3 = .ok (.invokevirtual 8, 3) := by decide +kernel
theorem dL_give_6 : decode cL_give 6 = .ok (.istore_n 3, 1) := by decide +kernel
theorem dL_give_7 : decode cL_give 7 = .ok (.goto 15, 3) := by decide +kernel
theorem dL_give_10 : decode cL_give 10 = .ok (.astore 4, 2) := by decide +kernel
theorem dL_give_12 : decode cL_give 12 = .ok (.sipush (-7100), 3) := by decide +kernel
theorem dL_give_15 : decode cL_give 15 = .ok (.ireturn, 1) := by decide +kernel
theorem dL_give_16 : decode cL_give 16 = .ok (.astore 4, 2) := by decide +kernel
theorem dL_give_18 : decode cL_give 18 = .ok (.sipush (-7300), 3) := by decide +kernel
theorem dL_give_21 : decode cL_give 21 = .ok (.ireturn, 1) := by decide +kernel
theorem dL_give_22 : decode cL_give 22 = .ok (.iload_n 3, 1) := by decide +kernel
theorem dL_give_23 : decode cL_give 23 = .ok (.ireturn, 1) := by decide +kernel
theorem dL_giveBack_0 : decode cL_giveBack 0 = .ok (.aload_n 0, 1) := by decide +kernel
theorem dL_giveBack_1 : decode cL_giveBack 1 = .ok (.iload_n 1, 1) := by decide +kernel
theorem dL_giveBack_2 : decode cL_giveBack 2 = .ok (.invokevirtual 18, 3) := by decide +kernel
theorem dL_giveBack_5 : decode cL_giveBack 5 = .ok (.istore_n 2, 1) := by decide +kernel
theorem dL_giveBack_6 : decode cL_giveBack 6 = .ok (.goto 13, 3) := by decide +kernel
theorem dL_giveBack_9 : decode cL_giveBack 9 = .ok (.astore_n 3, 1) := by decide +kernel
theorem dL_giveBack_10 : decode cL_giveBack 10 = .ok (.sipush (-7100), 3) := by decide +kernel
theorem dL_giveBack_13 : decode cL_giveBack 13 = .ok (.ireturn, 1) := by decide +kernel
theorem dL_giveBack_14 : decode cL_giveBack 14 = .ok (.astore_n 3, 1) := by decide +kernel
theorem dL_giveBack_15 : decode cL_giveBack 15 = .ok (.sipush (-7300), 3) := by decide +kernel
theorem dL_giveBack_18 : decode cL_giveBack 18 = .ok (.ireturn, 1) := by decide +kernel
theorem dL_giveBack_19 : decode cL_giveBack 19 = .ok (.iload_n 2, 1) := by decide +kernel
theorem dL_giveBack_20 : decode cL_giveBack 20 = .ok (.ireturn, 1) := by decide +kernel
theorem dL_assign_0 : decode cL_assign 0 = .ok (.aload_n 0, 1) := by decide +kernel
theorem dL_assign_1 : decode cL_assign 1 = .ok (.iload_n 1, 1) := by decide +kernel
theorem dL_assign_2 : decode cL_assign 2 = .ok (.iload_n 2, 1) := by decide +kernel
theorem dL_assign_3 : decode cL_assign 3 = .ok (.invokevirtual 22, 3) := by decide +kernel
theorem dL_assign_6 : decode cL_assign 6 = .ok (.istore_n 3, 1) := by decide +kernel
theorem dL_assign_7 : decode cL_assign 7 = .ok (.goto 21, 3) := by decide +kernel
theorem dL_assign_10 : decode cL_assign 10 = .ok (.astore 4, 2) := by decide +kernel
theorem dL_assign_12 : decode cL_assign 12 = .ok (.sipush (-7100), 3) := by decide +kernel
theorem dL_assign_15 : decode cL_assign 15 = .ok (.ireturn, 1) := by decide +kernel
theorem dL_assign_16 : decode cL_assign 16 = .ok (.astore 4, 2) := by decide +kernel
theorem dL_assign_18 : decode cL_assign 18 = .ok (.sipush (-7200), 3) := by decide +kernel
theorem dL_assign_21 : decode cL_assign 21 = .ok (.ireturn, 1) := by decide +kernel
theorem dL_assign_22 : decode cL_assign 22 = .ok (.astore 4, 2) := by decide +kernel
theorem dL_assign_24 : decode cL_assign 24 = .ok (.sipush (-7300), 3) := by decide +kernel
theorem dL_assign_27 : decode cL_assign 27 = .ok (.ireturn, 1) := by decide +kernel
theorem dL_assign_28 : decode cL_assign 28 = .ok (.iload_n 3, 1) := by decide +kernel
theorem dL_assign_29 : decode cL_assign 29 = .ok (.ireturn, 1) := by decide +kernel
theorem dL_end_0 : decode cL_end 0 = .ok (.aload_n 0, 1) := by decide +kernel
theorem dL_end_1 : decode cL_end 1 = .ok (.iload_n 1, 1) := by decide +kernel
theorem dL_end_2 : decode cL_end 2 = .ok (.invokevirtual 27, 3) := by decide +kernel
theorem dL_end_5 : decode cL_end 5 = .ok (.istore_n 2, 1) := by decide +kernel
theorem dL_end_6 : decode cL_end 6 = .ok (.goto 13, 3) := by decide +kernel
theorem dL_end_9 : decode cL_end 9 = .ok (.astore_n 3, 1) := by decide +kernel
theorem dL_end_10 : decode cL_end 10 = .ok (.sipush (-7100), 3) := by decide +kernel
theorem dL_end_13 : decode cL_end 13 = .ok (.ireturn, 1) := by decide +kernel
theorem dL_end_14 : decode cL_end 14 = .ok (.astore_n 3, 1) := by decide +kernel
theorem dL_end_15 : decode cL_end 15 = .ok (.sipush (-7300), 3) := by decide +kernel
theorem dL_end_18 : decode cL_end 18 = .ok (.ireturn, 1) := by decide +kernel
theorem dL_end_19 : decode cL_end 19 = .ok (.iload_n 2, 1) := by decide +kernel
theorem dL_end_20 : decode cL_end 20 = .ok (.ireturn, 1) := by decide +kernel
theorem dL_swap_0 : decode cL_swap 0 = .ok (.aload_n 0, 1) := by decide +kernel
theorem dL_swap_1 : decode cL_swap 1 = .ok (.iload_n 1, 1) := by decide +kernel
theorem dL_swap_2 : decode cL_swap 2 = .ok (.iload_n 2, 1) := by decide +kernel
theorem dL_swap_3 : decode cL_swap 3 = .ok (.invokevirtual 30, 3) := by decide +kernel
theorem dL_swap_6 : decode cL_swap 6 = .ok (.istore_n 3, 1) := by decide +kernel
theorem dL_swap_7 : decode cL_swap 7 = .ok (.goto 21, 3) := by decide +kernel
theorem dL_swap_10 : decode cL_swap 10 = .ok (.astore 4, 2) := by decide +kernel
theorem dL_swap_12 : decode cL_swap 12 = .ok (.sipush (-7100), 3) := by decide +kernel
theorem dL_swap_15 : decode cL_swap 15 = .ok (.ireturn, 1) := by decide +kernel
theorem dL_swap_16 : decode cL_swap 16 = .ok (.astore 4, 2) := by decide +kernel
theorem dL_swap_18 : decode cL_swap 18 = .ok (.sipush (-7200), 3) := by decide +kernel
theorem dL_swap_21 : decode cL_swap 21 = .ok (.ireturn, 1) := by decide +kernel
theorem dL_swap_22 : decode cL_swap 22 = .ok (.astore 4, 2) := by decide +kernel
theorem dL_swap_24 : decode cL_swap 24 = .ok (.sipush (-7300), 3) := by decide +kernel
theorem dL_swap_27 : decode cL_swap 27 = .ok (.ireturn, 1) := by decide +kernel
theorem dL_swap_28 : decode cL_swap 28 = .ok (.iload_n 3, 1) := by decide +kernel
theorem dL_swap_29 : decode cL_swap 29 = .ok (.ireturn, 1) := by decide +kernel
theorem dL_emergency_0 : decode cL_emergency 0 = .ok (.aload_n 0, 1) := by decide +kernel
theorem dL_emergency_1 : decode cL_emergency 1 = .ok (.iload_n 1, 1) := by decide +kernel
theorem dL_emergency_2 : decode cL_emergency 2 = .ok (.invokevirtual 33, 3) := by decide +kernel
theorem dL_emergency_5 : decode cL_emergency 5 = .ok (.istore_n 2, 1) := by decide +kernel
theorem dL_emergency_6 : decode cL_emergency 6 = .ok (.goto 13, 3) := by decide +kernel
theorem dL_emergency_9 : decode cL_emergency 9 = .ok (.astore_n 3, 1) := by decide +kernel
theorem dL_emergency_10 : decode cL_emergency 10 = .ok (.sipush (-7100), 3) := by decide +kernel
theorem dL_emergency_13 : decode cL_emergency 13 = .ok (.ireturn, 1) := by decide +kernel
theorem dL_emergency_14 : decode cL_emergency 14 = .ok (.astore_n 3, 1) := by decide +kernel
theorem dL_emergency_15 : decode cL_emergency 15 = .ok (.sipush (-7300), 3) := by decide +kernel
theorem dL_emergency_18 : decode cL_emergency 18 = .ok (.ireturn, 1) := by decide +kernel
theorem dL_emergency_19 : decode cL_emergency 19 = .ok (.iload_n 2, 1) := by decide +kernel
theorem dL_emergency_20 : decode cL_emergency 20 = .ok (.ireturn, 1) := by decide +kernel
theorem dL_endFirm_0 : decode cL_endFirm 0 = .ok (.aload_n 0, 1) := by decide +kernel
theorem dL_endFirm_1 : decode cL_endFirm 1 = .ok (.iload_n 1, 1) := by decide +kernel
theorem dL_endFirm_2 : decode cL_endFirm 2 = .ok (.iload_n 2, 1) := by decide +kernel
theorem dL_endFirm_3 : decode cL_endFirm 3 = .ok (.invokevirtual 36, 3) := by decide +kernel
theorem dL_endFirm_6 : decode cL_endFirm 6 = .ok (.istore_n 3, 1) := by decide +kernel
theorem dL_endFirm_7 : decode cL_endFirm 7 = .ok (.goto 21, 3) := by decide +kernel
theorem dL_endFirm_10 : decode cL_endFirm 10 = .ok (.astore 4, 2) := by decide +kernel
theorem dL_endFirm_12 : decode cL_endFirm 12 = .ok (.sipush (-7100), 3) := by decide +kernel
theorem dL_endFirm_15 : decode cL_endFirm 15 = .ok (.ireturn, 1) := by decide +kernel
theorem dL_endFirm_16 : decode cL_endFirm 16 = .ok (.astore 4, 2) := by decide +kernel
theorem dL_endFirm_18 : decode cL_endFirm 18 = .ok (.sipush (-7200), 3) := by decide +kernel
theorem dL_endFirm_21 : decode cL_endFirm 21 = .ok (.ireturn, 1) := by decide +kernel
theorem dL_endFirm_22 : decode cL_endFirm 22 = .ok (.astore 4, 2) := by decide +kernel
theorem dL_endFirm_24 : decode cL_endFirm 24 = .ok (.sipush (-7300), 3) := by decide +kernel
theorem dL_endFirm_27 : decode cL_endFirm 27 = .ok (.ireturn, 1) := by decide +kernel
theorem dL_endFirm_28 : decode cL_endFirm 28 = .ok (.iload_n 3, 1) := by decide +kernel
theorem dL_endFirm_29 : decode cL_endFirm 29 = .ok (.ireturn, 1) := by decide +kernel
theorem dL_order_0 : decode cL_order 0 = .ok (.aload_n 0, 1) := by decide +kernel
theorem dL_order_1 : decode cL_order 1 = .ok (.iload_n 1, 1) := by decide +kernel
theorem dL_order_2 : decode cL_order 2 = .ok (.iload_n 2, 1) := by decide +kernel
theorem dL_order_3 : decode cL_order 3 = .ok (.iload_n 3, 1) := by decide +kernel
theorem dL_order_4 : decode cL_order 4 = .ok (.iload 4, 2) := by decide +kernel
theorem dL_order_6 : decode cL_order 6 = .ok (.invokevirtual 39, 3) := by decide +kernel
theorem dL_order_9 : decode cL_order 9 = .ok (.istore 5, 2) := by decide +kernel
theorem dL_order_11 : decode cL_order 11 = .ok (.goto 21, 3) := by decide +kernel
theorem dL_order_14 : decode cL_order 14 = .ok (.astore 6, 2) := by decide +kernel
theorem dL_order_16 : decode cL_order 16 = .ok (.sipush (-7100), 3) := by decide +kernel
theorem dL_order_19 : decode cL_order 19 = .ok (.ireturn, 1) := by decide +kernel
theorem dL_order_20 : decode cL_order 20 = .ok (.astore 6, 2) := by decide +kernel
theorem dL_order_22 : decode cL_order 22 = .ok (.sipush (-7200), 3) := by decide +kernel
theorem dL_order_25 : decode cL_order 25 = .ok (.ireturn, 1) := by decide +kernel
theorem dL_order_26 : decode cL_order 26 = .ok (.astore 6, 2) := by decide +kernel
theorem dL_order_28 : decode cL_order 28 = .ok (.sipush (-7300), 3) := by decide +kernel
theorem dL_order_31 : decode cL_order 31 = .ok (.ireturn, 1) := by decide +kernel
theorem dL_order_32 : decode cL_order 32 = .ok (.iload 5, 2) := by decide +kernel
theorem dL_order_34 : decode cL_order 34 = .ok (.ireturn, 1) := by decide +kernel
theorem dL_cancel_0 : decode cL_cancel 0 = .ok (.aload_n 0, 1) := by decide +kernel
theorem dL_cancel_1 : decode cL_cancel 1 = .ok (.iload_n 1, 1) := by decide +kernel
theorem dL_cancel_2 : decode cL_cancel 2 = .ok (.invokevirtual 43, 3) := by decide +kernel
theorem dL_cancel_5 : decode cL_cancel 5 = .ok (.istore_n 2, 1) := by decide +kernel
theorem dL_cancel_6 : decode cL_cancel 6 = .ok (.goto 13, 3) := by decide +kernel
theorem dL_cancel_9 : decode cL_cancel 9 = .ok (.astore_n 3, 1) := by decide +kernel
theorem dL_cancel_10 : decode cL_cancel 10 = .ok (.sipush (-7100), 3) := by decide +kernel
theorem dL_cancel_13 : decode cL_cancel 13 = .ok (.ireturn, 1) := by decide +kernel
theorem dL_cancel_14 : decode cL_cancel 14 = .ok (.astore_n 3, 1) := by decide +kernel
theorem dL_cancel_15 : decode cL_cancel 15 = .ok (.sipush (-7300), 3) := by decide +kernel
theorem dL_cancel_18 : decode cL_cancel 18 = .ok (.ireturn, 1) := by decide +kernel
theorem dL_cancel_19 : decode cL_cancel 19 = .ok (.iload_n 2, 1) := by decide +kernel
theorem dL_cancel_20 : decode cL_cancel 20 = .ok (.ireturn, 1) := by decide +kernel
theorem dL_reverse_0 : decode cL_reverse 0 = .ok (.aload_n 0, 1) := by decide +kernel
theorem dL_reverse_1 : decode cL_reverse 1 = .ok (.iload_n 1, 1) := by decide +kernel
theorem dL_reverse_2 : decode cL_reverse 2 = .ok (.invokevirtual 46, 3) := by decide +kernel
theorem dL_reverse_5 : decode cL_reverse 5 = .ok (.istore_n 2, 1) := by decide +kernel
theorem dL_reverse_6 : decode cL_reverse 6 = .ok (.goto 13, 3) := by decide +kernel
theorem dL_reverse_9 : decode cL_reverse 9 = .ok (.astore_n 3, 1) := by decide +kernel
theorem dL_reverse_10 : decode cL_reverse 10 = .ok (.sipush (-7100), 3) := by decide +kernel
theorem dL_reverse_13 : decode cL_reverse 13 = .ok (.ireturn, 1) := by decide +kernel
theorem dL_reverse_14 : decode cL_reverse 14 = .ok (.astore_n 3, 1) := by decide +kernel
theorem dL_reverse_15 : decode cL_reverse 15 = .ok (.sipush (-7300), 3) := by decide +kernel
theorem dL_reverse_18 : decode cL_reverse 18 = .ok (.ireturn, 1) := by decide +kernel
theorem dL_reverse_19 : decode cL_reverse 19 = .ok (.iload_n 2, 1) := by decide +kernel
theorem dL_reverse_20 : decode cL_reverse 20 = .ok (.ireturn, 1) := by decide +kernel
theorem dL_pass_0 : decode cL_pass 0 = .ok (.aload_n 0, 1) := by decide +kernel
theorem dL_pass_1 : decode cL_pass 1 = .ok (.iload_n 1, 1) := by decide +kernel
theorem dL_pass_2 : decode cL_pass 2 = .ok (.invokevirtual 49, 3) := by decide +kernel
theorem dL_pass_5 : decode cL_pass 5 = .ok (.istore_n 2, 1) := by decide +kernel
theorem dL_pass_6 : decode cL_pass 6 = .ok (.goto 13, 3) := by decide +kernel
theorem dL_pass_9 : decode cL_pass 9 = .ok (.astore_n 3, 1) := by decide +kernel
theorem dL_pass_10 : decode cL_pass 10 = .ok (.sipush (-7200), 3) := by decide +kernel
theorem dL_pass_13 : decode cL_pass 13 = .ok (.ireturn, 1) := by decide +kernel
theorem dL_pass_14 : decode cL_pass 14 = .ok (.astore_n 3, 1) := by decide +kernel
theorem dL_pass_15 : decode cL_pass 15 = .ok (.sipush (-7300), 3) := by decide +kernel
theorem dL_pass_18 : decode cL_pass 18 = .ok (.ireturn, 1) := by decide +kernel
theorem dL_pass_19 : decode cL_pass 19 = .ok (.iload_n 2, 1) := by decide +kernel
theorem dL_pass_20 : decode cL_pass 20 = .ok (.ireturn, 1) := by decide +kernel
theorem dL_setLag_0 : decode cL_setLag 0 = .ok (.aload_n 0, 1) := by decide +kernel
theorem dL_setLag_1 : decode cL_setLag 1 = .ok (.iload_n 1, 1) := by decide +kernel
theorem dL_setLag_2 : decode cL_setLag 2 = .ok (.iload_n 2, 1) := by decide +kernel
theorem dL_setLag_3 : decode cL_setLag 3 = .ok (.invokevirtual 52, 3) := by decide +kernel
theorem dL_setLag_6 : decode cL_setLag 6 = .ok (.istore_n 3, 1) := by decide +kernel
theorem dL_setLag_7 : decode cL_setLag 7 = .ok (.goto 15, 3) := by decide +kernel
theorem dL_setLag_10 : decode cL_setLag 10 = .ok (.astore 4, 2) := by decide +kernel
theorem dL_setLag_12 : decode cL_setLag 12 = .ok (.sipush (-7100), 3) := by decide +kernel
theorem dL_setLag_15 : decode cL_setLag 15 = .ok (.ireturn, 1) := by decide +kernel
theorem dL_setLag_16 : decode cL_setLag 16 = .ok (.astore 4, 2) := by decide +kernel
theorem dL_setLag_18 : decode cL_setLag 18 = .ok (.sipush (-7200), 3) := by decide +kernel
theorem dL_setLag_21 : decode cL_setLag 21 = .ok (.ireturn, 1) := by decide +kernel
theorem dL_setLag_22 : decode cL_setLag 22 = .ok (.iload_n 3, 1) := by decide +kernel
theorem dL_setLag_23 : decode cL_setLag 23 = .ok (.ireturn, 1) := by decide +kernel
theorem dL_setDown_0 : decode cL_setDown 0 = .ok (.aload_n 0, 1) := by decide +kernel
theorem dL_setDown_1 : decode cL_setDown 1 = .ok (.iload_n 1, 1) := by decide +kernel
theorem dL_setDown_2 : decode cL_setDown 2 = .ok (.iload_n 2, 1) := by decide +kernel
theorem dL_setDown_3 : decode cL_setDown 3 = .ok (.invokevirtual 55, 3) := by decide +kernel
theorem dL_setDown_6 : decode cL_setDown 6 = .ok (.istore_n 3, 1) := by decide +kernel
theorem dL_setDown_7 : decode cL_setDown 7 = .ok (.goto 9, 3) := by decide +kernel
theorem dL_setDown_10 : decode cL_setDown 10 = .ok (.astore 4, 2) := by decide +kernel
theorem dL_setDown_12 : decode cL_setDown 12 = .ok (.sipush (-7100), 3) := by decide +kernel
theorem dL_setDown_15 : decode cL_setDown 15 = .ok (.ireturn, 1) := by decide +kernel
theorem dL_setDown_16 : decode cL_setDown 16 = .ok (.iload_n 3, 1) := by decide +kernel
theorem dL_setDown_17 : decode cL_setDown 17 = .ok (.ifCond .eq 7, 3) := by decide +kernel
theorem dL_setDown_20 : decode cL_setDown 20 = .ok (.iconst 1, 1) := by decide +kernel
theorem dL_setDown_21 : decode cL_setDown 21 = .ok (.goto 4, 3) := by decide +kernel
theorem dL_setDown_24 : decode cL_setDown 24 = .ok (.iconst 0, 1) := by decide +kernel
theorem dL_setDown_25 : decode cL_setDown 25 = .ok (.ireturn, 1) := by decide +kernel
theorem dL_correct_0 : decode cL_correct 0 = .ok (.aload_n 0, 1) := by decide +kernel
theorem dL_correct_1 : decode cL_correct 1 = .ok (.iload_n 1, 1) := by decide +kernel
theorem dL_correct_2 : decode cL_correct 2 = .ok (.invokevirtual 59, 3) := by decide +kernel
theorem dL_correct_5 : decode cL_correct 5 = .ok (.istore_n 2, 1) := by decide +kernel
theorem dL_correct_6 : decode cL_correct 6 = .ok (.goto 8, 3) := by decide +kernel
theorem dL_correct_9 : decode cL_correct 9 = .ok (.astore_n 3, 1) := by decide +kernel
theorem dL_correct_10 : decode cL_correct 10 = .ok (.sipush (-7100), 3) := by decide +kernel
theorem dL_correct_13 : decode cL_correct 13 = .ok (.ireturn, 1) := by decide +kernel
theorem dL_correct_14 : decode cL_correct 14 = .ok (.iload_n 2, 1) := by decide +kernel
theorem dL_correct_15 : decode cL_correct 15 = .ok (.ireturn, 1) := by decide +kernel
theorem dL_server_0 : decode cL_server 0 = .ok (.aload_n 0, 1) := by decide +kernel
theorem dL_server_1 : decode cL_server 1 = .ok (.iload_n 1, 1) := by decide +kernel
theorem dL_server_2 : decode cL_server 2 = .ok (.invokevirtual 62, 3) := by decide +kernel
theorem dL_server_5 : decode cL_server 5 = .ok (.istore_n 2, 1) := by decide +kernel
theorem dL_server_6 : decode cL_server 6 = .ok (.goto 8, 3) := by decide +kernel
theorem dL_server_9 : decode cL_server 9 = .ok (.astore_n 3, 1) := by decide +kernel
theorem dL_server_10 : decode cL_server 10 = .ok (.sipush (-7100), 3) := by decide +kernel
theorem dL_server_13 : decode cL_server 13 = .ok (.ireturn, 1) := by decide +kernel
theorem dL_server_14 : decode cL_server 14 = .ok (.iload_n 2, 1) := by decide +kernel
theorem dL_server_15 : decode cL_server 15 = .ok (.ireturn, 1) := by decide +kernel
theorem dL_serverAnew_0 : decode cL_serverAnew 0 = .ok (.aload_n 0, 1) := by decide +kernel
theorem dL_serverAnew_1 : decode cL_serverAnew 1 = .ok (.iload_n 1, 1) := by decide +kernel
theorem dL_serverAnew_2 : decode cL_serverAnew 2 = .ok (.invokevirtual 65, 3) := by decide +kernel
theorem dL_serverAnew_5 : decode cL_serverAnew 5 = .ok (.istore_n 2, 1) := by decide +kernel
theorem dL_serverAnew_6 : decode cL_serverAnew 6 = .ok (.goto 8, 3) := by decide +kernel
theorem dL_serverAnew_9 : decode cL_serverAnew 9 = .ok (.astore_n 3, 1) := by decide +kernel
theorem dL_serverAnew_10 : decode cL_serverAnew 10 = .ok (.sipush (-7100), 3) := by decide +kernel
theorem dL_serverAnew_13 : decode cL_serverAnew 13 = .ok (.ireturn, 1) := by decide +kernel
theorem dL_serverAnew_14 : decode cL_serverAnew 14 = .ok (.iload_n 2, 1) := by decide +kernel
theorem dL_serverAnew_15 : decode cL_serverAnew 15 = .ok (.ireturn, 1) := by decide +kernel
theorem dL_number_0 : decode cL_number 0 = .ok (.aload_n 0, 1) := by decide +kernel
theorem dL_number_1 : decode cL_number 1 = .ok (.iload_n 1, 1) := by decide +kernel
theorem dL_number_2 : decode cL_number 2 = .ok (.iload_n 2, 1) := by decide +kernel
theorem dL_number_3 : decode cL_number 3 = .ok (.invokevirtual 68, 3) := by decide +kernel
theorem dL_number_6 : decode cL_number 6 = .ok (.istore_n 3, 1) := by decide +kernel
theorem dL_number_7 : decode cL_number 7 = .ok (.goto 15, 3) := by decide +kernel
theorem dL_number_10 : decode cL_number 10 = .ok (.astore 4, 2) := by decide +kernel
theorem dL_number_12 : decode cL_number 12 = .ok (.sipush (-7100), 3) := by decide +kernel
theorem dL_number_15 : decode cL_number 15 = .ok (.ireturn, 1) := by decide +kernel
theorem dL_number_16 : decode cL_number 16 = .ok (.astore 4, 2) := by decide +kernel
theorem dL_number_18 : decode cL_number 18 = .ok (.sipush (-7200), 3) := by decide +kernel
theorem dL_number_21 : decode cL_number 21 = .ok (.ireturn, 1) := by decide +kernel
theorem dL_number_22 : decode cL_number 22 = .ok (.iload_n 3, 1) := by decide +kernel
theorem dL_number_23 : decode cL_number 23 = .ok (.ireturn, 1) := by decide +kernel
theorem dL_of_0 : decode cL_of 0 = .ok (.aload_n 0, 1) := by decide +kernel
theorem dL_of_1 : decode cL_of 1 = .ok (.iload_n 1, 1) := by decide +kernel
theorem dL_of_2 : decode cL_of 2 = .ok (.iload_n 2, 1) := by decide +kernel
theorem dL_of_3 : decode cL_of 3 = .ok (.invokevirtual 71, 3) := by decide +kernel
theorem dL_of_6 : decode cL_of 6 = .ok (.istore_n 3, 1) := by decide +kernel
theorem dL_of_7 : decode cL_of 7 = .ok (.goto 15, 3) := by decide +kernel
theorem dL_of_10 : decode cL_of 10 = .ok (.astore 4, 2) := by decide +kernel
theorem dL_of_12 : decode cL_of 12 = .ok (.sipush (-7100), 3) := by decide +kernel
theorem dL_of_15 : decode cL_of 15 = .ok (.ireturn, 1) := by decide +kernel
theorem dL_of_16 : decode cL_of 16 = .ok (.astore 4, 2) := by decide +kernel
theorem dL_of_18 : decode cL_of 18 = .ok (.sipush (-7200), 3) := by decide +kernel
theorem dL_of_21 : decode cL_of 21 = .ok (.ireturn, 1) := by decide +kernel
theorem dL_of_22 : decode cL_of 22 = .ok (.iload_n 3, 1) := by decide +kernel
theorem dL_of_23 : decode cL_of 23 = .ok (.ireturn, 1) := by decide +kernel
theorem dL_room_0 : decode cL_room 0 = .ok (.aload_n 0, 1) := by decide +kernel
theorem dL_room_1 : decode cL_room 1 = .ok (.iload_n 1, 1) := by decide +kernel
theorem dL_room_2 : decode cL_room 2 = .ok (.invokevirtual 74, 3) := by decide +kernel
theorem dL_room_5 : decode cL_room 5 = .ok (.istore_n 2, 1) := by decide +kernel
theorem dL_room_6 : decode cL_room 6 = .ok (.goto 8, 3) := by decide +kernel
theorem dL_room_9 : decode cL_room 9 = .ok (.astore_n 3, 1) := by decide +kernel
theorem dL_room_10 : decode cL_room 10 = .ok (.sipush (-7200), 3) := by decide +kernel
theorem dL_room_13 : decode cL_room 13 = .ok (.ireturn, 1) := by decide +kernel
theorem dL_room_14 : decode cL_room 14 = .ok (.iload_n 2, 1) := by decide +kernel
theorem dL_room_15 : decode cL_room 15 = .ok (.ireturn, 1) := by decide +kernel
theorem dL_firm_0 : decode cL_firm 0 = .ok (.aload_n 0, 1) := by decide +kernel
theorem dL_firm_1 : decode cL_firm 1 = .ok (.iload_n 1, 1) := by decide +kernel
theorem dL_firm_2 : decode cL_firm 2 = .ok (.iload_n 2, 1) := by decide +kernel
theorem dL_firm_3 : decode cL_firm 3 = .ok (.invokevirtual 77, 3) := by decide +kernel
theorem dL_firm_6 : decode cL_firm 6 = .ok (.istore_n 3, 1) := by decide +kernel
theorem dL_firm_7 : decode cL_firm 7 = .ok (.goto 15, 3) := by decide +kernel
theorem dL_firm_10 : decode cL_firm 10 = .ok (.astore 4, 2) := by decide +kernel
theorem dL_firm_12 : decode cL_firm 12 = .ok (.sipush (-7100), 3) := by decide +kernel
theorem dL_firm_15 : decode cL_firm 15 = .ok (.ireturn, 1) := by decide +kernel
theorem dL_firm_16 : decode cL_firm 16 = .ok (.astore 4, 2) := by decide +kernel
theorem dL_firm_18 : decode cL_firm 18 = .ok (.sipush (-7200), 3) := by decide +kernel
theorem dL_firm_21 : decode cL_firm 21 = .ok (.ireturn, 1) := by decide +kernel
theorem dL_firm_22 : decode cL_firm 22 = .ok (.iload_n 3, 1) := by decide +kernel
theorem dL_firm_23 : decode cL_firm 23 = .ok (.ireturn, 1) := by decide +kernel
theorem dL_known_0 : decode cL_known 0 = .ok (.aload_n 0, 1) := by decide +kernel
theorem dL_known_1 : decode cL_known 1 = .ok (.iload_n 1, 1) := by decide +kernel
theorem dL_known_2 : decode cL_known 2 = .ok (.iload_n 2, 1) := by decide +kernel
theorem dL_known_3 : decode cL_known 3 = .ok (.invokevirtual 80, 3) := by decide +kernel
theorem dL_known_6 : decode cL_known 6 = .ok (.istore_n 3, 1) := by decide +kernel
theorem dL_known_7 : decode cL_known 7 = .ok (.goto 9, 3) := by decide +kernel
theorem dL_known_10 : decode cL_known 10 = .ok (.astore 4, 2) := by decide +kernel
theorem dL_known_12 : decode cL_known 12 = .ok (.sipush (-7100), 3) := by decide +kernel
theorem dL_known_15 : decode cL_known 15 = .ok (.ireturn, 1) := by decide +kernel
theorem dL_known_16 : decode cL_known 16 = .ok (.iload_n 3, 1) := by decide +kernel
theorem dL_known_17 : decode cL_known 17 = .ok (.ireturn, 1) := by decide +kernel
theorem dL_audit_0 : decode cL_audit 0 = .ok (.aload_n 0, 1) := by decide +kernel
theorem dL_audit_1 : decode cL_audit 1 = .ok (.iload_n 1, 1) := by decide +kernel
theorem dL_audit_2 : decode cL_audit 2 = .ok (.invokevirtual 83, 3) := by decide +kernel
theorem dL_audit_5 : decode cL_audit 5 = .ok (.istore_n 2, 1) := by decide +kernel
theorem dL_audit_6 : decode cL_audit 6 = .ok (.goto 8, 3) := by decide +kernel
theorem dL_audit_9 : decode cL_audit 9 = .ok (.astore_n 3, 1) := by decide +kernel
theorem dL_audit_10 : decode cL_audit 10 = .ok (.sipush (-7100), 3) := by decide +kernel
theorem dL_audit_13 : decode cL_audit 13 = .ok (.ireturn, 1) := by decide +kernel
theorem dL_audit_14 : decode cL_audit 14 = .ok (.iload_n 2, 1) := by decide +kernel
theorem dL_audit_15 : decode cL_audit 15 = .ok (.ireturn, 1) := by decide +kernel
theorem dL_hop_0 : decode cL_hop 0 = .ok (.aload_n 0, 1) := by decide +kernel
theorem dL_hop_1 : decode cL_hop 1 = .ok (.iload_n 1, 1) := by decide +kernel
theorem dL_hop_2 : decode cL_hop 2 = .ok (.iload_n 2, 1) := by decide +kernel
theorem dL_hop_3 : decode cL_hop 3 = .ok (.iload_n 3, 1) := by decide +kernel
theorem dL_hop_4 : decode cL_hop 4 = .ok (.iload 4, 2) := by decide +kernel
theorem dL_hop_6 : decode cL_hop 6 = .ok (.invokevirtual 86, 3) := by decide +kernel
theorem dL_hop_9 : decode cL_hop 9 = .ok (.istore 5, 2) := by decide +kernel
theorem dL_hop_11 : decode cL_hop 11 = .ok (.goto 15, 3) := by decide +kernel
theorem dL_hop_14 : decode cL_hop 14 = .ok (.astore 6, 2) := by decide +kernel
theorem dL_hop_16 : decode cL_hop 16 = .ok (.sipush (-7100), 3) := by decide +kernel
theorem dL_hop_19 : decode cL_hop 19 = .ok (.ireturn, 1) := by decide +kernel
theorem dL_hop_20 : decode cL_hop 20 = .ok (.astore 6, 2) := by decide +kernel
theorem dL_hop_22 : decode cL_hop 22 = .ok (.sipush (-7200), 3) := by decide +kernel
theorem dL_hop_25 : decode cL_hop 25 = .ok (.ireturn, 1) := by decide +kernel
theorem dL_hop_26 : decode cL_hop 26 = .ok (.iload 5, 2) := by decide +kernel
theorem dL_hop_28 : decode cL_hop 28 = .ok (.ireturn, 1) := by decide +kernel
theorem dL_why_0 : decode cL_why 0 = .ok (.aload_n 0, 1) := by decide +kernel
theorem dL_why_1 : decode cL_why 1 = .ok (.iload_n 1, 1) := by decide +kernel
theorem dL_why_2 : decode cL_why 2 = .ok (.iload_n 2, 1) := by decide +kernel
theorem dL_why_3 : decode cL_why 3 = .ok (.iload_n 3, 1) := by decide +kernel
theorem dL_why_4 : decode cL_why 4 = .ok (.invokevirtual 89, 3) := by decide +kernel
theorem dL_why_7 : decode cL_why 7 = .ok (.istore 4, 2) := by decide +kernel
theorem dL_why_9 : decode cL_why 9 = .ok (.goto 15, 3) := by decide +kernel
theorem dL_why_12 : decode cL_why 12 = .ok (.astore 5, 2) := by decide +kernel
theorem dL_why_14 : decode cL_why 14 = .ok (.sipush (-7100), 3) := by decide +kernel
theorem dL_why_17 : decode cL_why 17 = .ok (.ireturn, 1) := by decide +kernel
theorem dL_why_18 : decode cL_why 18 = .ok (.astore 5, 2) := by decide +kernel
theorem dL_why_20 : decode cL_why 20 = .ok (.sipush (-7200), 3) := by decide +kernel
theorem dL_why_23 : decode cL_why 23 = .ok (.ireturn, 1) := by decide +kernel
theorem dL_why_24 : decode cL_why 24 = .ok (.iload 4, 2) := by decide +kernel
theorem dL_why_26 : decode cL_why 26 = .ok (.ireturn, 1) := by decide +kernel
theorem dL_dial_0 : decode cL_dial 0 = .ok (.aload_n 0, 1) := by decide +kernel
theorem dL_dial_1 : decode cL_dial 1 = .ok (.iload_n 1, 1) := by decide +kernel
theorem dL_dial_2 : decode cL_dial 2 = .ok (.iload_n 2, 1) := by decide +kernel
theorem dL_dial_3 : decode cL_dial 3 = .ok (.iload_n 3, 1) := by decide +kernel
theorem dL_dial_4 : decode cL_dial 4 = .ok (.invokevirtual 93, 3) := by decide +kernel
theorem dL_dial_7 : decode cL_dial 7 = .ok (.istore 4, 2) := by decide +kernel
theorem dL_dial_9 : decode cL_dial 9 = .ok (.goto 21, 3) := by decide +kernel
theorem dL_dial_12 : decode cL_dial 12 = .ok (.astore 5, 2) := by decide +kernel
theorem dL_dial_14 : decode cL_dial 14 = .ok (.sipush (-7100), 3) := by decide +kernel
theorem dL_dial_17 : decode cL_dial 17 = .ok (.ireturn, 1) := by decide +kernel
theorem dL_dial_18 : decode cL_dial 18 = .ok (.astore 5, 2) := by decide +kernel
theorem dL_dial_20 : decode cL_dial 20 = .ok (.sipush (-7200), 3) := by decide +kernel
theorem dL_dial_23 : decode cL_dial 23 = .ok (.ireturn, 1) := by decide +kernel
theorem dL_dial_24 : decode cL_dial 24 = .ok (.astore 5, 2) := by decide +kernel
theorem dL_dial_26 : decode cL_dial 26 = .ok (.sipush (-7300), 3) := by decide +kernel
theorem dL_dial_29 : decode cL_dial 29 = .ok (.ireturn, 1) := by decide +kernel
theorem dL_dial_30 : decode cL_dial 30 = .ok (.iload 4, 2) := by decide +kernel
theorem dL_dial_32 : decode cL_dial 32 = .ok (.ireturn, 1) := by decide +kernel
theorem dL_digits_0 : decode cL_digits 0 = .ok (.bipush 10, 2) := by decide +kernel
theorem dL_digits_2 : decode cL_digits 2 = .ok (.iload_n 0, 1) := by decide +kernel
theorem dL_digits_3 : decode cL_digits 3 = .ok (.iconst 3, 1) := by decide +kernel
theorem dL_digits_4 : decode cL_digits 4 = .ok (.idiv, 1) := by decide +kernel
theorem dL_digits_5 : decode cL_digits 5 = .ok (.imul, 1) := by decide +kernel
theorem dL_digits_6 : decode cL_digits 6 = .ok (.iload_n 0, 1) := by decide +kernel
theorem dL_digits_7 : decode cL_digits 7 = .ok (.iconst 3, 1) := by decide +kernel
theorem dL_digits_8 : decode cL_digits 8 = .ok (.irem, 1) := by decide +kernel
theorem dL_digits_9 : decode cL_digits 9 = .ok (.iconst 4, 1) := by decide +kernel
theorem dL_digits_10 : decode cL_digits 10 = .ok (.imul, 1) := by decide +kernel
theorem dL_digits_11 : decode cL_digits 11 = .ok (.iadd, 1) := by decide +kernel
theorem dL_digits_12 : decode cL_digits 12 = .ok (.ireturn, 1) := by decide +kernel
theorem dL_state_0 : decode cL_state 0 = .ok (.iload_n 0, 1) := by decide +kernel
theorem dL_state_1 : decode cL_state 1 = .ok (.bipush 7, 2) := by decide +kernel
theorem dL_state_3 : decode cL_state 3 = .ok (.iand, 1) := by decide +kernel
theorem dL_state_4 : decode cL_state 4 = .ok (.ireturn, 1) := by decide +kernel
theorem dL_winner_0 : decode cL_winner 0 = .ok (.iload_n 0, 1) := by decide +kernel
theorem dL_winner_1 : decode cL_winner 1 = .ok (.bipush 10, 2) := by decide +kernel
theorem dL_winner_3 : decode cL_winner 3 = .ok (.ishr, 1) := by decide +kernel
theorem dL_winner_4 : decode cL_winner 4 = .ok (.bipush 7, 2) := by decide +kernel
theorem dL_winner_6 : decode cL_winner 6 = .ok (.iand, 1) := by decide +kernel
theorem dL_winner_7 : decode cL_winner 7 = .ok (.ireturn, 1) := by decide +kernel
theorem dL_minute_0 : decode cL_minute 0 = .ok (.iload_n 0, 1) := by decide +kernel
theorem dL_minute_1 : decode cL_minute 1 = .ok (.bipush 16, 2) := by decide +kernel
theorem dL_minute_3 : decode cL_minute 3 = .ok (.iushr, 1) := by decide +kernel
theorem dL_minute_4 : decode cL_minute 4 = .ok (.ireturn, 1) := by decide +kernel
theorem dL_isDown_0 : decode cL_isDown 0 = .ok (.iload_n 0, 1) := by decide +kernel
theorem dL_isDown_1 : decode cL_isDown 1 = .ok (.bipush 64, 2) := by decide +kernel
theorem dL_isDown_3 : decode cL_isDown 3 = .ok (.iand, 1) := by decide +kernel
theorem dL_isDown_4 : decode cL_isDown 4 = .ok (.ifCond .le 7, 3) := by decide +kernel
theorem dL_isDown_7 : decode cL_isDown 7 = .ok (.iconst 1, 1) := by decide +kernel
theorem dL_isDown_8 : decode cL_isDown 8 = .ok (.goto 4, 3) := by decide +kernel
theorem dL_isDown_11 : decode cL_isDown 11 = .ok (.iconst 0, 1) := by decide +kernel
theorem dL_isDown_12 : decode cL_isDown 12 = .ok (.ireturn, 1) := by decide +kernel
theorem dL_isGone_0 : decode cL_isGone 0 = .ok (.iload_n 0, 1) := by decide +kernel
theorem dL_isGone_1 : decode cL_isGone 1 = .ok (.sipush 128, 3) := by decide +kernel
theorem dL_isGone_4 : decode cL_isGone 4 = .ok (.iand, 1) := by decide +kernel
theorem dL_isGone_5 : decode cL_isGone 5 = .ok (.ifCond .le 7, 3) := by decide +kernel
theorem dL_isGone_8 : decode cL_isGone 8 = .ok (.iconst 1, 1) := by decide +kernel
theorem dL_isGone_9 : decode cL_isGone 9 = .ok (.goto 4, 3) := by decide +kernel
theorem dL_isGone_12 : decode cL_isGone 12 = .ok (.iconst 0, 1) := by decide +kernel
theorem dL_isGone_13 : decode cL_isGone 13 = .ok (.ireturn, 1) := by decide +kernel
theorem dL_account_0 : decode cL_account 0 = .ok (.iload_n 0, 1) := by decide +kernel
theorem dL_account_1 : decode cL_account 1 = .ok (.bipush 10, 2) := by decide +kernel
theorem dL_account_3 : decode cL_account 3 = .ok (.ishr, 1) := by decide +kernel
theorem dL_account_4 : decode cL_account 4 = .ok (.sipush 4096, 3) := by decide +kernel
theorem dL_account_7 : decode cL_account 7 = .ok (.isub, 1) := by decide +kernel
theorem dL_account_8 : decode cL_account 8 = .ok (.ireturn, 1) := by decide +kernel
theorem dL_waits_0 : decode cL_waits 0 = .ok (.iconst 0, 1) := by decide +kernel
theorem dL_waits_1 : decode cL_waits 1 = .ok (.istore_n 3, 1) := by decide +kernel
theorem dL_waits_2 : decode cL_waits 2 = .ok (.iload_n 3, 1) := by decide +kernel
theorem dL_waits_3 : decode cL_waits 3 = .ok (.aload_n 2, 1) := by decide +kernel
theorem dL_waits_4 : decode cL_waits 4 = .ok (.iconst 1, 1) := by decide +kernel
theorem dL_waits_5 : decode cL_waits 5 = .ok (.iaload, 1) := by decide +kernel
theorem dL_waits_6 : decode cL_waits 6 = .ok (.if_icmp .ge 34, 3) := by decide +kernel
theorem dL_waits_9 : decode cL_waits 9 = .ok (.aload_n 1, 1) := by decide +kernel
theorem dL_waits_10 : decode cL_waits 10 = .ok (.iload_n 3, 1) := by decide +kernel
theorem dL_waits_11 : decode cL_waits 11 = .ok (.iaload, 1) := by decide +kernel
theorem dL_waits_12 : decode cL_waits 12 = .ok (.invokestatic 96, 3) := by decide +kernel
theorem dL_waits_15 : decode cL_waits 15 = .ok (.iconst 1, 1) := by decide +kernel
theorem dL_waits_16 : decode cL_waits 16 = .ok (.if_icmp .ne 18, 3) := by decide +kernel
theorem dL_waits_19 : decode cL_waits 19 = .ok (.aload_n 1, 1) := by decide +kernel
theorem dL_waits_20 : decode cL_waits 20 = .ok (.iload_n 3, 1) := by decide +kernel
theorem dL_waits_21 : decode cL_waits 21 = .ok (.iaload, 1) := by decide +kernel
theorem dL_waits_22 : decode cL_waits 22 = .ok (.bipush 6, 2) := by decide +kernel
theorem dL_waits_24 : decode cL_waits 24 = .ok (.ishr, 1) := by decide +kernel
theorem dL_waits_25 : decode cL_waits 25 = .ok (.bipush 15, 2) := by decide +kernel
theorem dL_waits_27 : decode cL_waits 27 = .ok (.iand, 1) := by decide +kernel
theorem dL_waits_28 : decode cL_waits 28 = .ok (.iload_n 0, 1) := by decide +kernel
theorem dL_waits_29 : decode cL_waits 29 = .ok (.if_icmp .ne 5, 3) := by decide +kernel
theorem dL_waits_32 : decode cL_waits 32 = .ok (.iload_n 3, 1) := by decide +kernel
theorem dL_waits_33 : decode cL_waits 33 = .ok (.ireturn, 1) := by decide +kernel
theorem dL_waits_34 : decode cL_waits 34 = .ok (.iinc 3 1, 3) := by decide +kernel
theorem dL_waits_37 : decode cL_waits 37 = .ok (.goto (-35), 3) := by decide +kernel
theorem dL_waits_40 : decode cL_waits 40 = .ok (.iconst (-1), 1) := by decide +kernel
theorem dL_waits_41 : decode cL_waits 41 = .ok (.ireturn, 1) := by decide +kernel
theorem dL_waitAt_0 : decode cL_waitAt 0 = .ok (.iconst 0, 1) := by decide +kernel
theorem dL_waitAt_1 : decode cL_waitAt 1 = .ok (.istore_n 3, 1) := by decide +kernel
theorem dL_waitAt_2 : decode cL_waitAt 2 = .ok (.iconst 0, 1) := by decide +kernel
theorem dL_waitAt_3 : decode cL_waitAt 3 = .ok (.istore 4, 2) := by decide +kernel
theorem dL_waitAt_5 : decode cL_waitAt 5 = .ok (.iload 4, 2) := by decide +kernel
theorem dL_waitAt_7 : decode cL_waitAt 7 = .ok (.aload_n 2, 1) := by decide +kernel
theorem dL_waitAt_8 : decode cL_waitAt 8 = .ok (.iconst 1, 1) := by decide +kernel
theorem dL_waitAt_9 : decode cL_waitAt 9 = .ok (.iaload, 1) := by decide +kernel
theorem dL_waitAt_10 : decode cL_waitAt 10 = .ok (.if_icmp .ge 39, 3) := by decide +kernel
theorem dL_waitAt_13 : decode cL_waitAt 13 = .ok (.iload_n 3, 1) := by decide +kernel
theorem dL_waitAt_14 : decode cL_waitAt 14 = .ok (.aload_n 1, 1) := by decide +kernel
theorem dL_waitAt_15 : decode cL_waitAt 15 = .ok (.iload 4, 2) := by decide +kernel
theorem dL_waitAt_17 : decode cL_waitAt 17 = .ok (.iaload, 1) := by decide +kernel
theorem dL_waitAt_18 : decode cL_waitAt 18 = .ok (.invokestatic 96, 3) := by decide +kernel
theorem dL_waitAt_21 : decode cL_waitAt 21 = .ok (.iconst 1, 1) := by decide +kernel
theorem dL_waitAt_22 : decode cL_waitAt 22 = .ok (.if_icmp .ne 18, 3) := by decide +kernel
theorem dL_waitAt_25 : decode cL_waitAt 25 = .ok (.aload_n 1, 1) := by decide +kernel
theorem dL_waitAt_26 : decode cL_waitAt 26 = .ok (.iload 4, 2) := by decide +kernel
theorem dL_waitAt_28 : decode cL_waitAt 28 = .ok (.iaload, 1) := by decide +kernel
theorem dL_waitAt_29 : decode cL_waitAt 29 = .ok (.invokestatic 101, 3) := by decide +kernel
theorem dL_waitAt_32 : decode cL_waitAt 32 = .ok (.iload_n 0, 1) := by decide +kernel
theorem dL_waitAt_33 : decode cL_waitAt 33 = .ok (.if_icmp .ne 7, 3) := by decide +kernel
theorem dL_waitAt_36 : decode cL_waitAt 36 = .ok (.iconst 1, 1) := by decide +kernel
theorem dL_waitAt_37 : decode cL_waitAt 37 = .ok (.goto 4, 3) := by decide +kernel
theorem dL_waitAt_40 : decode cL_waitAt 40 = .ok (.iconst 0, 1) := by decide +kernel
theorem dL_waitAt_41 : decode cL_waitAt 41 = .ok (.iadd, 1) := by decide +kernel
theorem dL_waitAt_42 : decode cL_waitAt 42 = .ok (.istore_n 3, 1) := by decide +kernel
theorem dL_waitAt_43 : decode cL_waitAt 43 = .ok (.iinc 4 1, 3) := by decide +kernel
theorem dL_waitAt_46 : decode cL_waitAt 46 = .ok (.goto (-41), 3) := by decide +kernel
theorem dL_waitAt_49 : decode cL_waitAt 49 = .ok (.iload_n 3, 1) := by decide +kernel
theorem dL_waitAt_50 : decode cL_waitAt 50 = .ok (.ireturn, 1) := by decide +kernel
theorem dL_goesTo_0 : decode cL_goesTo 0 = .ok (.aload_n 3, 1) := by decide +kernel
theorem dL_goesTo_1 : decode cL_goesTo 1 = .ok (.iload_n 0, 1) := by decide +kernel
theorem dL_goesTo_2 : decode cL_goesTo 2 = .ok (.iload_n 1, 1) := by decide +kernel
theorem dL_goesTo_3 : decode cL_goesTo 3 = .ok (.iastore, 1) := by decide +kernel
theorem dL_goesTo_4 : decode cL_goesTo 4 = .ok (.aload 4, 2) := by decide +kernel
theorem dL_goesTo_6 : decode cL_goesTo 6 = .ok (.aload 5, 2) := by decide +kernel
theorem dL_goesTo_8 : decode cL_goesTo 8 = .ok (.iconst 2, 1) := by decide +kernel
theorem dL_goesTo_9 : decode cL_goesTo 9 = .ok (.dup2, 1) := by decide +kernel
theorem dL_goesTo_10 : decode cL_goesTo 10 = .ok (.iaload, 1) := by decide +kernel
theorem dL_goesTo_11 : decode cL_goesTo 11 = .ok (.dup_x2, 1) := by decide +kernel
theorem dL_goesTo_12 : decode cL_goesTo 12 = .ok (.iconst 1, 1) := by decide +kernel
theorem dL_goesTo_13 : decode cL_goesTo 13 = .ok (.iadd, 1) := by decide +kernel
theorem dL_goesTo_14 : decode cL_goesTo 14 = .ok (.iastore, 1) := by decide +kernel
theorem dL_goesTo_15 : decode cL_goesTo 15 = .ok (.aload 5, 2) := by decide +kernel
theorem dL_goesTo_17 : decode cL_goesTo 17 = .ok (.iconst 0, 1) := by decide +kernel
theorem dL_goesTo_18 : decode cL_goesTo 18 = .ok (.iaload, 1) := by decide +kernel
theorem dL_goesTo_19 : decode cL_goesTo 19 = .ok (.iload_n 0, 1) := by decide +kernel
theorem dL_goesTo_20 : decode cL_goesTo 20 = .ok (.bipush 14, 2) := by decide +kernel
theorem dL_goesTo_22 : decode cL_goesTo 22 = .ok (.ishl, 1) := by decide +kernel
theorem dL_goesTo_23 : decode cL_goesTo 23 = .ok (.ior, 1) := by decide +kernel
theorem dL_goesTo_24 : decode cL_goesTo 24 = .ok (.aload_n 2, 1) := by decide +kernel
theorem dL_goesTo_25 : decode cL_goesTo 25 = .ok (.iload_n 0, 1) := by decide +kernel
theorem dL_goesTo_26 : decode cL_goesTo 26 = .ok (.iconst 3, 1) := by decide +kernel
theorem dL_goesTo_27 : decode cL_goesTo 27 = .ok (.idiv, 1) := by decide +kernel
theorem dL_goesTo_28 : decode cL_goesTo 28 = .ok (.iaload, 1) := by decide +kernel
theorem dL_goesTo_29 : decode cL_goesTo 29 = .ok (.iload_n 1, 1) := by decide +kernel
theorem dL_goesTo_30 : decode cL_goesTo 30 = .ok (.if_icmp .ne 8, 3) := by decide +kernel
theorem dL_goesTo_33 : decode cL_goesTo 33 = .ok (.bipush 6, 2) := by decide +kernel
theorem dL_goesTo_35 : decode cL_goesTo 35 = .ok (.goto 4, 3) := by decide +kernel
theorem dL_goesTo_38 : decode cL_goesTo 38 = .ok (.iload_n 1, 1) := by decide +kernel
theorem dL_goesTo_39 : decode cL_goesTo 39 = .ok (.bipush 18, 2) := by decide +kernel
theorem dL_goesTo_41 : decode cL_goesTo 41 = .ok (.ishl, 1) := by decide +kernel
theorem dL_goesTo_42 : decode cL_goesTo 42 = .ok (.ior, 1) := by decide +kernel
theorem dL_goesTo_43 : decode cL_goesTo 43 = .ok (.iastore, 1) := by decide +kernel
theorem dL_goesTo_44 : decode cL_goesTo 44 = .ok (.return_, 1) := by decide +kernel
theorem dL_learns_0 : decode cL_learns 0 = .ok (.aload 4, 2) := by decide +kernel
theorem dL_learns_2 : decode cL_learns 2 = .ok (.iload_n 0, 1) := by decide +kernel
theorem dL_learns_3 : decode cL_learns 3 = .ok (.iaload, 1) := by decide +kernel
theorem dL_learns_4 : decode cL_learns 4 = .ok (.istore 7, 2) := by decide +kernel
theorem dL_learns_6 : decode cL_learns 6 = .ok (.aload 4, 2) := by decide +kernel
theorem dL_learns_8 : decode cL_learns 8 = .ok (.iload_n 0, 1) := by decide +kernel
theorem dL_learns_9 : decode cL_learns 9 = .ok (.iaload, 1) := by decide +kernel
theorem dL_learns_10 : decode cL_learns 10 = .ok (.aload 6, 2) := by decide +kernel
theorem dL_learns_12 : decode cL_learns 12 = .ok (.iconst 2, 1) := by decide +kernel
theorem dL_learns_13 : decode cL_learns 13 = .ok (.iaload, 1) := by decide +kernel
theorem dL_learns_14 : decode cL_learns 14 = .ok (.if_icmp .ge 102, 3) := by decide +kernel
theorem dL_learns_17 : decode cL_learns 17 = .ok (.iload_n 1, 1) := by decide +kernel
theorem dL_learns_18 : decode cL_learns 18 = .ok (.ifCond .ne 38, 3) := by decide +kernel
theorem dL_learns_21 : decode cL_learns 21 = .ok (.aload 5, 2) := by decide +kernel
theorem dL_learns_23 : decode cL_learns 23 = .ok (.iload_n 0, 1) := by decide +kernel
theorem dL_learns_24 : decode cL_learns 24 = .ok (.iaload, 1) := by decide +kernel
theorem dL_learns_25 : decode cL_learns 25 = .ok (.invokestatic 104, 3) := by decide +kernel
theorem dL_learns_28 : decode cL_learns 28 = .ok (.ifCond .ne 88, 3) := by decide +kernel
theorem dL_learns_31 : decode cL_learns 31 = .ok (.aload_n 2, 1) := by decide +kernel
theorem dL_learns_32 : decode cL_learns 32 = .ok (.aload 4, 2) := by decide +kernel
theorem dL_learns_34 : decode cL_learns 34 = .ok (.iload_n 0, 1) := by decide +kernel
theorem dL_learns_35 : decode cL_learns 35 = .ok (.iaload, 1) := by decide +kernel
theorem dL_learns_36 : decode cL_learns 36 = .ok (.iaload, 1) := by decide +kernel
theorem dL_learns_37 : decode cL_learns 37 = .ok (.sipush 16383, 3) := by decide +kernel
theorem dL_learns_40 : decode cL_learns 40 = .ok (.iand, 1) := by decide +kernel
theorem dL_learns_41 : decode cL_learns 41 = .ok (.aload 5, 2) := by decide +kernel
theorem dL_learns_43 : decode cL_learns 43 = .ok (.iload_n 0, 1) := by decide +kernel
theorem dL_learns_44 : decode cL_learns 44 = .ok (.iaload, 1) := by decide +kernel
theorem dL_learns_45 : decode cL_learns 45 = .ok (.bipush 63, 2) := by decide +kernel
theorem dL_learns_47 : decode cL_learns 47 = .ok (.iand, 1) := by decide +kernel
theorem dL_learns_48 : decode cL_learns 48 = .ok (.iadd, 1) := by decide +kernel
theorem dL_learns_49 : decode cL_learns 49 = .ok (.aload 6, 2) := by decide +kernel
theorem dL_learns_51 : decode cL_learns 51 = .ok (.iconst 0, 1) := by decide +kernel
theorem dL_learns_52 : decode cL_learns 52 = .ok (.iaload, 1) := by decide +kernel
theorem dL_learns_53 : decode cL_learns 53 = .ok (.if_icmp .gt 63, 3) := by decide +kernel
theorem dL_learns_56 : decode cL_learns 56 = .ok (.aload_n 2, 1) := by decide +kernel
theorem dL_learns_57 : decode cL_learns 57 = .ok (.aload 4, 2) := by decide +kernel
theorem dL_learns_59 : decode cL_learns 59 = .ok (.iload_n 0, 1) := by decide +kernel
theorem dL_learns_60 : decode cL_learns 60 = .ok (.iaload, 1) := by decide +kernel
theorem dL_learns_61 : decode cL_learns 61 = .ok (.iaload, 1) := by decide +kernel
theorem dL_learns_62 : decode cL_learns 62 = .ok (.bipush 14, 2) := by decide +kernel
theorem dL_learns_64 : decode cL_learns 64 = .ok (.ishr, 1) := by decide +kernel
theorem dL_learns_65 : decode cL_learns 65 = .ok (.bipush 15, 2) := by decide +kernel
theorem dL_learns_67 : decode cL_learns 67 = .ok (.iand, 1) := by decide +kernel
theorem dL_learns_68 : decode cL_learns 68 = .ok (.istore 8, 2) := by decide +kernel
theorem dL_learns_70 : decode cL_learns 70 = .ok (.aload_n 3, 1) := by decide +kernel
theorem dL_learns_71 : decode cL_learns 71 = .ok (.iload_n 0, 1) := by decide +kernel
theorem dL_learns_72 : decode cL_learns 72 = .ok (.aload_n 3, 1) := by decide +kernel
theorem dL_learns_73 : decode cL_learns 73 = .ok (.iload_n 0, 1) := by decide +kernel
theorem dL_learns_74 : decode cL_learns 74 = .ok (.laload, 1) := by decide +kernel
theorem dL_learns_75 : decode cL_learns 75 = .ok (.ldc2_w 108, 3) := by decide +kernel
theorem dL_learns_78 : decode cL_learns 78 = .ok (.iconst 3, 1) := by decide +kernel
theorem dL_learns_79 : decode cL_learns 79 = .ok (.iload 8, 2) := by decide +kernel
theorem dL_learns_81 : decode cL_learns 81 = .ok (.imul, 1) := by decide +kernel
theorem dL_learns_82 : decode cL_learns 82 = .ok (.lshl, 1) := by decide +kernel
theorem dL_learns_83 : decode cL_learns 83 = .ok (.ldc2_w 110, 3) := by decide +kernel
theorem dL_learns_86 : decode cL_learns 86 = .ok (.lxor, 1) := by decide +kernel
theorem dL_learns_87 : decode cL_learns 87 = .ok (.land, 1) := by decide +kernel
theorem dL_learns_88 : decode cL_learns 88 = .ok (.aload_n 2, 1) := by decide +kernel
theorem dL_learns_89 : decode cL_learns 89 = .ok (.aload 4, 2) := by decide +kernel
theorem dL_learns_91 : decode cL_learns 91 = .ok (.iload_n 0, 1) := by decide +kernel
theorem dL_learns_92 : decode cL_learns 92 = .ok (.iaload, 1) := by decide +kernel
theorem dL_learns_93 : decode cL_learns 93 = .ok (.iaload, 1) := by decide +kernel
theorem dL_learns_94 : decode cL_learns 94 = .ok (.bipush 18, 2) := by decide +kernel
theorem dL_learns_96 : decode cL_learns 96 = .ok (.ishr, 1) := by decide +kernel
theorem dL_learns_97 : decode cL_learns 97 = .ok (.i2l, 1) := by decide +kernel
theorem dL_learns_98 : decode cL_learns 98 = .ok (.iconst 3, 1) := by decide +kernel
theorem dL_learns_99 : decode cL_learns 99 = .ok (.iload 8, 2) := by decide +kernel
theorem dL_learns_101 : decode cL_learns 101 = .ok (.imul, 1) := by decide +kernel
theorem dL_learns_102 : decode cL_learns 102 = .ok (.lshl, 1) := by decide +kernel
theorem dL_learns_103 : decode cL_learns 103 = .ok (.lor, 1) := by decide +kernel
theorem dL_learns_104 : decode cL_learns 104 = .ok (.lastore, 1) := by decide +kernel
theorem dL_learns_105 : decode cL_learns 105 = .ok (.aload 4, 2) := by decide +kernel
theorem dL_learns_107 : decode cL_learns 107 = .ok (.iload_n 0, 1) := by decide +kernel
theorem dL_learns_108 : decode cL_learns 108 = .ok (.dup2, 1) := by decide +kernel
theorem dL_learns_109 : decode cL_learns 109 = .ok (.iaload, 1) := by decide +kernel
theorem dL_learns_110 : decode cL_learns 110 = .ok (.iconst 1, 1) := by decide +kernel
theorem dL_learns_111 : decode cL_learns 111 = .ok (.iadd, 1) := by decide +kernel
theorem dL_learns_112 : decode cL_learns 112 = .ok (.iastore, 1) := by decide +kernel
theorem dL_learns_113 : decode cL_learns 113 = .ok (.goto (-107), 3) := by decide +kernel
theorem dL_learns_116 : decode cL_learns 116 = .ok (.aload 4, 2) := by decide +kernel
theorem dL_learns_118 : decode cL_learns 118 = .ok (.iload_n 0, 1) := by decide +kernel
theorem dL_learns_119 : decode cL_learns 119 = .ok (.iaload, 1) := by decide +kernel
theorem dL_learns_120 : decode cL_learns 120 = .ok (.iload 7, 2) := by decide +kernel
theorem dL_learns_122 : decode cL_learns 122 = .ok (.isub, 1) := by decide +kernel
theorem dL_learns_123 : decode cL_learns 123 = .ok (.ireturn, 1) := by decide +kernel
theorem dL_isWith_0 : decode cL_isWith 0 = .ok (.aload_n 3, 1) := by decide +kernel
theorem dL_isWith_1 : decode cL_isWith 1 = .ok (.iload_n 0, 1) := by decide +kernel
theorem dL_isWith_2 : decode cL_isWith 2 = .ok (.laload, 1) := by decide +kernel
theorem dL_isWith_3 : decode cL_isWith 3 = .ok (.iconst 3, 1) := by decide +kernel
theorem dL_isWith_4 : decode cL_isWith 4 = .ok (.iload_n 1, 1) := by decide +kernel
theorem dL_isWith_5 : decode cL_isWith 5 = .ok (.imul, 1) := by decide +kernel
theorem dL_isWith_6 : decode cL_isWith 6 = .ok (.lshr, 1) := by decide +kernel
theorem dL_isWith_7 : decode cL_isWith 7 = .ok (.ldc2_w 108, 3) := by decide +kernel
theorem dL_isWith_10 : decode cL_isWith 10 = .ok (.land, 1) := by decide +kernel
theorem dL_isWith_11 : decode cL_isWith 11 = .ok (.l2i, 1) := by decide +kernel
theorem dL_isWith_12 : decode cL_isWith 12 = .ok (.istore 4, 2) := by decide +kernel
theorem dL_isWith_14 : decode cL_isWith 14 = .ok (.iload 4, 2) := by decide +kernel
theorem dL_isWith_16 : decode cL_isWith 16 = .ok (.bipush 6, 2) := by decide +kernel
theorem dL_isWith_18 : decode cL_isWith 18 = .ok (.if_icmp .eq 12, 3) := by decide +kernel
theorem dL_isWith_21 : decode cL_isWith 21 = .ok (.aload_n 2, 1) := by decide +kernel
theorem dL_isWith_22 : decode cL_isWith 22 = .ok (.iload_n 1, 1) := by decide +kernel
theorem dL_isWith_23 : decode cL_isWith 23 = .ok (.iconst 3, 1) := by decide +kernel
theorem dL_isWith_24 : decode cL_isWith 24 = .ok (.idiv, 1) := by decide +kernel
theorem dL_isWith_25 : decode cL_isWith 25 = .ok (.iaload, 1) := by decide +kernel
theorem dL_isWith_26 : decode cL_isWith 26 = .ok (.iconst (-1), 1) := by decide +kernel
theorem dL_isWith_27 : decode cL_isWith 27 = .ok (.if_icmp .ne 11, 3) := by decide +kernel
theorem dL_isWith_30 : decode cL_isWith 30 = .ok (.aload_n 2, 1) := by decide +kernel
theorem dL_isWith_31 : decode cL_isWith 31 = .ok (.iload_n 1, 1) := by decide +kernel
theorem dL_isWith_32 : decode cL_isWith 32 = .ok (.iconst 3, 1) := by decide +kernel
theorem dL_isWith_33 : decode cL_isWith 33 = .ok (.idiv, 1) := by decide +kernel
theorem dL_isWith_34 : decode cL_isWith 34 = .ok (.iaload, 1) := by decide +kernel
theorem dL_isWith_35 : decode cL_isWith 35 = .ok (.goto 5, 3) := by decide +kernel
theorem dL_isWith_38 : decode cL_isWith 38 = .ok (.iload 4, 2) := by decide +kernel
theorem dL_isWith_40 : decode cL_isWith 40 = .ok (.ireturn, 1) := by decide +kernel
theorem dL_goes_0 : decode cL_goes 0 = .ok (.aload_n 3, 1) := by decide +kernel
theorem dL_goes_1 : decode cL_goes 1 = .ok (.iload_n 1, 1) := by decide +kernel
theorem dL_goes_2 : decode cL_goes 2 = .ok (.iconst 3, 1) := by decide +kernel
theorem dL_goes_3 : decode cL_goes 3 = .ok (.idiv, 1) := by decide +kernel
theorem dL_goes_4 : decode cL_goes 4 = .ok (.iaload, 1) := by decide +kernel
theorem dL_goes_5 : decode cL_goes 5 = .ok (.istore 7, 2) := by decide +kernel
theorem dL_goes_7 : decode cL_goes 7 = .ok (.iload_n 0, 1) := by decide +kernel
theorem dL_goes_8 : decode cL_goes 8 = .ok (.i2l, 1) := by decide +kernel
theorem dL_goes_9 : decode cL_goes 9 = .ok (.lconst 1, 1) := by decide +kernel
theorem dL_goes_10 : decode cL_goes 10 = .ok (.ladd, 1) := by decide +kernel
theorem dL_goes_11 : decode cL_goes 11 = .ok (.lstore 8, 2) := by decide +kernel
theorem dL_goes_13 : decode cL_goes 13 = .ok (.iload 7, 2) := by decide +kernel
theorem dL_goes_15 : decode cL_goes 15 = .ok (.iconst (-1), 1) := by decide +kernel
theorem dL_goes_16 : decode cL_goes 16 = .ok (.if_icmp .ne 10, 3) := by decide +kernel
theorem dL_goes_19 : decode cL_goes 19 = .ok (.lload 8, 2) := by decide +kernel
theorem dL_goes_21 : decode cL_goes 21 = .ok (.iconst 3, 1) := by decide +kernel
theorem dL_goes_22 : decode cL_goes 22 = .ok (.lshl, 1) := by decide +kernel
theorem dL_goes_23 : decode cL_goes 23 = .ok (.lconst 1, 1) := by decide +kernel
theorem dL_goes_24 : decode cL_goes 24 = .ok (.lor, 1) := by decide +kernel
theorem dL_goes_25 : decode cL_goes 25 = .ok (.lreturn, 1) := by decide +kernel
theorem dL_goes_26 : decode cL_goes 26 = .ok (.aload 4, 2) := by decide +kernel
theorem dL_goes_28 : decode cL_goes 28 = .ok (.iload_n 1, 1) := by decide +kernel
theorem dL_goes_29 : decode cL_goes 29 = .ok (.iaload, 1) := by decide +kernel
theorem dL_goes_30 : decode cL_goes 30 = .ok (.iconst (-1), 1) := by decide +kernel
theorem dL_goes_31 : decode cL_goes 31 = .ok (.if_icmp .ne 31, 3) := by decide +kernel
theorem dL_goes_34 : decode cL_goes 34 = .ok (.iload 7, 2) := by decide +kernel
theorem dL_goes_36 : decode cL_goes 36 = .ok (.iload_n 0, 1) := by decide +kernel
theorem dL_goes_37 : decode cL_goes 37 = .ok (.if_icmp .ne 8, 3) := by decide +kernel
theorem dL_goes_40 : decode cL_goes 40 = .ok (.lload 8, 2) := by decide +kernel
theorem dL_goes_42 : decode cL_goes 42 = .ok (.goto 13, 3) := by decide +kernel
theorem dL_goes_45 : decode cL_goes 45 = .ok (.lload 8, 2) := by decide +kernel
theorem dL_goes_47 : decode cL_goes 47 = .ok (.iconst 4, 1) := by decide +kernel
theorem dL_goes_48 : decode cL_goes 48 = .ok (.lshl, 1) := by decide +kernel
theorem dL_goes_49 : decode cL_goes 49 = .ok (.iload 7, 2) := by decide +kernel
theorem dL_goes_51 : decode cL_goes 51 = .ok (.i2l, 1) := by decide +kernel
theorem dL_goes_52 : decode cL_goes 52 = .ok (.lconst 1, 1) := by decide +kernel
theorem dL_goes_53 : decode cL_goes 53 = .ok (.ladd, 1) := by decide +kernel
theorem dL_goes_54 : decode cL_goes 54 = .ok (.lor, 1) := by decide +kernel
theorem dL_goes_55 : decode cL_goes 55 = .ok (.iconst 3, 1) := by decide +kernel
theorem dL_goes_56 : decode cL_goes 56 = .ok (.lshl, 1) := by decide +kernel
theorem dL_goes_57 : decode cL_goes 57 = .ok (.ldc2_w 112, 3) := by decide +kernel
theorem dL_goes_60 : decode cL_goes 60 = .ok (.lor, 1) := by decide +kernel
theorem dL_goes_61 : decode cL_goes 61 = .ok (.lreturn, 1) := by decide +kernel
theorem dL_goes_62 : decode cL_goes 62 = .ok (.iconst 1, 1) := by decide +kernel
theorem dL_goes_63 : decode cL_goes 63 = .ok (.iload_n 0, 1) := by decide +kernel
theorem dL_goes_64 : decode cL_goes 64 = .ok (.ishl, 1) := by decide +kernel
theorem dL_goes_65 : decode cL_goes 65 = .ok (.istore 10, 2) := by decide +kernel
theorem dL_goes_67 : decode cL_goes 67 = .ok (.iload_n 0, 1) := by decide +kernel
theorem dL_goes_68 : decode cL_goes 68 = .ok (.istore 11, 2) := by decide +kernel
theorem dL_goes_70 : decode cL_goes 70 = .ok (.iconst 0, 1) := by decide +kernel
theorem dL_goes_71 : decode cL_goes 71 = .ok (.istore 12, 2) := by decide +kernel
theorem dL_goes_73 : decode cL_goes 73 = .ok (.aload 4, 2) := by decide +kernel
theorem dL_goes_75 : decode cL_goes 75 = .ok (.iload_n 1, 1) := by decide +kernel
theorem dL_goes_76 : decode cL_goes 76 = .ok (.iaload, 1) := by decide +kernel
theorem dL_goes_77 : decode cL_goes 77 = .ok (.iload 11, 2) := by decide +kernel
theorem dL_goes_79 : decode cL_goes 79 = .ok (.if_icmp .ne 10, 3) := by decide +kernel
theorem dL_goes_82 : decode cL_goes 82 = .ok (.lload 8, 2) := by decide +kernel
theorem dL_goes_84 : decode cL_goes 84 = .ok (.iconst 3, 1) := by decide +kernel
theorem dL_goes_85 : decode cL_goes 85 = .ok (.lshl, 1) := by decide +kernel
theorem dL_goes_86 : decode cL_goes 86 = .ok (.lconst 0, 1) := by decide +kernel
theorem dL_goes_87 : decode cL_goes 87 = .ok (.lor, 1) := by decide +kernel
theorem dL_goes_88 : decode cL_goes 88 = .ok (.lreturn, 1) := by decide +kernel
theorem dL_goes_89 : decode cL_goes 89 = .ok (.aload 6, 2) := by decide +kernel
theorem dL_goes_91 : decode cL_goes 91 = .ok (.iload 11, 2) := by decide +kernel
theorem dL_goes_93 : decode cL_goes 93 = .ok (.iaload, 1) := by decide +kernel
theorem dL_goes_94 : decode cL_goes 94 = .ok (.invokestatic 114, 3) := by decide +kernel
theorem dL_goes_97 : decode cL_goes 97 = .ok (.ifCond .eq 12, 3) := by decide +kernel
theorem dL_goes_100 : decode cL_goes 100 = .ok (.lload 8, 2) := by decide +kernel
theorem dL_goes_102 : decode cL_goes 102 = .ok (.iconst 3, 1) := by decide +kernel
theorem dL_goes_103 : decode cL_goes 103 = .ok (.lshl, 1) := by decide +kernel
theorem dL_goes_104 : decode cL_goes 104 = .ok (.ldc2_w 117, 3) := by decide +kernel
theorem dL_goes_107 : decode cL_goes 107 = .ok (.lor, 1) := by decide +kernel
theorem dL_goes_108 : decode cL_goes 108 = .ok (.lreturn, 1) := by decide +kernel
theorem dL_goes_109 : decode cL_goes 109 = .ok (.iload 11, 2) := by decide +kernel
theorem dL_goes_111 : decode cL_goes 111 = .ok (.iload_n 1, 1) := by decide +kernel
theorem dL_goes_112 : decode cL_goes 112 = .ok (.aload_n 3, 1) := by decide +kernel
theorem dL_goes_113 : decode cL_goes 113 = .ok (.aload 5, 2) := by decide +kernel
theorem dL_goes_115 : decode cL_goes 115 = .ok (.invokestatic 119, 3) := by decide +kernel
theorem dL_goes_118 : decode cL_goes 118 = .ok (.istore 13, 2) := by decide +kernel
theorem dL_goes_120 : decode cL_goes 120 = .ok (.iload 12, 2) := by decide +kernel
theorem dL_goes_122 : decode cL_goes 122 = .ok (.ifCond .ne 18, 3) := by decide +kernel
theorem dL_goes_125 : decode cL_goes 125 = .ok (.iload 11, 2) := by decide +kernel
theorem dL_goes_127 : decode cL_goes 127 = .ok (.iload 7, 2) := by decide +kernel
theorem dL_goes_129 : decode cL_goes 129 = .ok (.if_icmp .eq 11, 3) := by decide +kernel
theorem dL_goes_132 : decode cL_goes 132 = .ok (.iload_n 2, 1) := by decide +kernel
theorem dL_goes_133 : decode cL_goes 133 = .ok (.ifCond .eq 7, 3) := by decide +kernel
theorem dL_goes_136 : decode cL_goes 136 = .ok (.iconst 1, 1) := by decide +kernel
theorem dL_goes_137 : decode cL_goes 137 = .ok (.goto 4, 3) := by decide +kernel
theorem dL_goes_140 : decode cL_goes 140 = .ok (.iconst 0, 1) := by decide +kernel
theorem dL_goes_141 : decode cL_goes 141 = .ok (.istore 14, 2) := by decide +kernel
theorem dL_goes_143 : decode cL_goes 143 = .ok (.iload 12, 2) := by decide +kernel
theorem dL_goes_145 : decode cL_goes 145 = .ok (.iconst 1, 1) := by decide +kernel
theorem dL_goes_146 : decode cL_goes 146 = .ok (.if_icmp .ne 19, 3) := by decide +kernel
theorem dL_goes_149 : decode cL_goes 149 = .ok (.iload 11, 2) := by decide +kernel
theorem dL_goes_151 : decode cL_goes 151 = .ok (.iload 7, 2) := by decide +kernel
theorem dL_goes_153 : decode cL_goes 153 = .ok (.if_icmp .ne 12, 3) := by decide +kernel
theorem dL_goes_156 : decode cL_goes 156 = .ok (.iload_n 2, 1) := by decide +kernel
theorem dL_goes_157 : decode cL_goes 157 = .ok (.iconst 2, 1) := by decide +kernel
theorem dL_goes_158 : decode cL_goes 158 = .ok (.if_icmp .ne 7, 3) := by decide +kernel
theorem dL_goes_161 : decode cL_goes 161 = .ok (.iconst 1, 1) := by decide +kernel
theorem dL_goes_162 : decode cL_goes 162 = .ok (.goto 4, 3) := by decide +kernel
theorem dL_goes_165 : decode cL_goes 165 = .ok (.iconst 0, 1) := by decide +kernel
theorem dL_goes_166 : decode cL_goes 166 = .ok (.istore 15, 2) := by decide +kernel
theorem dL_goes_168 : decode cL_goes 168 = .ok (.iload 14, 2) := by decide +kernel
theorem dL_goes_170 : decode cL_goes 170 = .ok (.ifCond .eq 7, 3) := by decide +kernel
theorem dL_goes_173 : decode cL_goes 173 = .ok (.iload 7, 2) := by decide +kernel
theorem dL_goes_175 : decode cL_goes 175 = .ok (.istore 13, 2) := by decide +kernel
theorem dL_goes_177 : decode cL_goes 177 = .ok (.iload 15, 2) := by decide +kernel
theorem dL_goes_179 : decode cL_goes 179 = .ok (.ifCond .eq 13, 3) := by decide +kernel
theorem dL_goes_182 : decode cL_goes 182 = .ok (.iload_n 0, 1) := by decide +kernel
theorem dL_goes_183 : decode cL_goes 183 = .ok (.iload_n 1, 1) := by decide +kernel
theorem dL_goes_184 : decode cL_goes 184 = .ok (.aload_n 3, 1) := by decide +kernel
theorem dL_goes_185 : decode cL_goes 185 = .ok (.aload 5, 2) := by decide +kernel
theorem dL_goes_187 : decode cL_goes 187 = .ok (.invokestatic 119, 3) := by decide +kernel
theorem dL_goes_190 : decode cL_goes 190 = .ok (.istore 13, 2) := by decide +kernel
theorem dL_goes_192 : decode cL_goes 192 = .ok (.iload 13, 2) := by decide +kernel
theorem dL_goes_194 : decode cL_goes 194 = .ok (.iload 11, 2) := by decide +kernel
theorem dL_goes_196 : decode cL_goes 196 = .ok (.if_icmp .eq 14, 3) := by decide +kernel
theorem dL_goes_199 : decode cL_goes 199 = .ok (.iload 15, 2) := by decide +kernel
theorem dL_goes_201 : decode cL_goes 201 = .ok (.ifCond .eq 18, 3) := by decide +kernel
theorem dL_goes_204 : decode cL_goes 204 = .ok (.iload 13, 2) := by decide +kernel
theorem dL_goes_206 : decode cL_goes 206 = .ok (.iload_n 0, 1) := by decide +kernel
theorem dL_goes_207 : decode cL_goes 207 = .ok (.if_icmp .ne 12, 3) := by decide +kernel
theorem dL_goes_210 : decode cL_goes 210 = .ok (.lload 8, 2) := by decide +kernel
theorem dL_goes_212 : decode cL_goes 212 = .ok (.iconst 3, 1) := by decide +kernel
theorem dL_goes_213 : decode cL_goes 213 = .ok (.lshl, 1) := by decide +kernel
theorem dL_goes_214 : decode cL_goes 214 = .ok (.ldc2_w 117, 3) := by decide +kernel
theorem dL_goes_217 : decode cL_goes 217 = .ok (.lor, 1) := by decide +kernel
theorem dL_goes_218 : decode cL_goes 218 = .ok (.lreturn, 1) := by decide +kernel
theorem dL_goes_219 : decode cL_goes 219 = .ok (.lload 8, 2) := by decide +kernel
theorem dL_goes_221 : decode cL_goes 221 = .ok (.iconst 4, 1) := by decide +kernel
theorem dL_goes_222 : decode cL_goes 222 = .ok (.lshl, 1) := by decide +kernel
theorem dL_goes_223 : decode cL_goes 223 = .ok (.iload 13, 2) := by decide +kernel
theorem dL_goes_225 : decode cL_goes 225 = .ok (.i2l, 1) := by decide +kernel
theorem dL_goes_226 : decode cL_goes 226 = .ok (.lconst 1, 1) := by decide +kernel
theorem dL_goes_227 : decode cL_goes 227 = .ok (.ladd, 1) := by decide +kernel
theorem dL_goes_228 : decode cL_goes 228 = .ok (.lor, 1) := by decide +kernel
theorem dL_goes_229 : decode cL_goes 229 = .ok (.lstore 8, 2) := by decide +kernel
theorem dL_goes_231 : decode cL_goes 231 = .ok (.iload 10, 2) := by decide +kernel
theorem dL_goes_233 : decode cL_goes 233 = .ok (.iload 13, 2) := by decide +kernel
theorem dL_goes_235 : decode cL_goes 235 = .ok (.ishr, 1) := by decide +kernel
theorem dL_goes_236 : decode cL_goes 236 = .ok (.iconst 1, 1) := by decide +kernel
theorem dL_goes_237 : decode cL_goes 237 = .ok (.iand, 1) := by decide +kernel
theorem dL_goes_238 : decode cL_goes 238 = .ok (.iconst 1, 1) := by decide +kernel
theorem dL_goes_239 : decode cL_goes 239 = .ok (.if_icmp .ne 12, 3) := by decide +kernel
theorem dL_goes_242 : decode cL_goes 242 = .ok (.lload 8, 2) := by decide +kernel
theorem dL_goes_244 : decode cL_goes 244 = .ok (.iconst 3, 1) := by decide +kernel
theorem dL_goes_245 : decode cL_goes 245 = .ok (.lshl, 1) := by decide +kernel
theorem dL_goes_246 : decode cL_goes 246 = .ok (.ldc2_w 123, 3) := by decide +kernel
theorem dL_goes_249 : decode cL_goes 249 = .ok (.lor, 1) := by decide +kernel
theorem dL_goes_250 : decode cL_goes 250 = .ok (.lreturn, 1) := by decide +kernel
theorem dL_goes_251 : decode cL_goes 251 = .ok (.iload 10, 2) := by decide +kernel
theorem dL_goes_253 : decode cL_goes 253 = .ok (.iconst 1, 1) := by decide +kernel
theorem dL_goes_254 : decode cL_goes 254 = .ok (.iload 13, 2) := by decide +kernel
theorem dL_goes_256 : decode cL_goes 256 = .ok (.ishl, 1) := by decide +kernel
theorem dL_goes_257 : decode cL_goes 257 = .ok (.ior, 1) := by decide +kernel
theorem dL_goes_258 : decode cL_goes 258 = .ok (.istore 10, 2) := by decide +kernel
theorem dL_goes_260 : decode cL_goes 260 = .ok (.iload 13, 2) := by decide +kernel
theorem dL_goes_262 : decode cL_goes 262 = .ok (.istore 11, 2) := by decide +kernel
theorem dL_goes_264 : decode cL_goes 264 = .ok (.iinc 12 1, 3) := by decide +kernel
theorem dL_goes_267 : decode cL_goes 267 = .ok (.goto (-194), 3) := by decide +kernel
theorem dL_isTold_0 : decode cL_isTold 0 = .ok (.iload_n 1, 1) := by decide +kernel
theorem dL_isTold_1 : decode cL_isTold 1 = .ok (.bipush 12, 2) := by decide +kernel
theorem dL_isTold_3 : decode cL_isTold 3 = .ok (.invokestatic 125, 3) := by decide +kernel
theorem dL_isTold_6 : decode cL_isTold 6 = .ok (.istore 9, 2) := by decide +kernel
theorem dL_isTold_8 : decode cL_isTold 8 = .ok (.iload 9, 2) := by decide +kernel
theorem dL_isTold_10 : decode cL_isTold 10 = .ok (.invokestatic 128, 3) := by decide +kernel
theorem dL_isTold_13 : decode cL_isTold 13 = .ok (.istore 10, 2) := by decide +kernel
theorem dL_isTold_15 : decode cL_isTold 15 = .ok (.aload_n 0, 1) := by decide +kernel
theorem dL_isTold_16 : decode cL_isTold 16 = .ok (.invokevirtual 131, 3) := by decide +kernel
theorem dL_isTold_19 : decode cL_isTold 19 = .ok (.aload 8, 2) := by decide +kernel
theorem dL_isTold_21 : decode cL_isTold 21 = .ok (.iconst 0, 1) := by decide +kernel
theorem dL_isTold_22 : decode cL_isTold 22 = .ok (.iaload, 1) := by decide +kernel
theorem dL_isTold_23 : decode cL_isTold 23 = .ok (.if_icmp .ne 151, 3) := by decide +kernel
theorem dL_isTold_26 : decode cL_isTold 26 = .ok (.aload_n 0, 1) := by decide +kernel
theorem dL_isTold_27 : decode cL_isTold 27 = .ok (.iload 10, 2) := by decide +kernel
theorem dL_isTold_29 : decode cL_isTold 29 = .ok (.invokestatic 134, 3) := by decide +kernel
theorem dL_isTold_32 : decode cL_isTold 32 = .ok (.aload_n 3, 1) := by decide +kernel
theorem dL_isTold_33 : decode cL_isTold 33 = .ok (.iload 9, 2) := by decide +kernel
theorem dL_isTold_35 : decode cL_isTold 35 = .ok (.iaload, 1) := by decide +kernel
theorem dL_isTold_36 : decode cL_isTold 36 = .ok (.if_icmp .ne 138, 3) := by decide +kernel
theorem dL_isTold_39 : decode cL_isTold 39 = .ok (.aload_n 0, 1) := by decide +kernel
theorem dL_isTold_40 : decode cL_isTold 40 = .ok (.iload 10, 2) := by decide +kernel
theorem dL_isTold_42 : decode cL_isTold 42 = .ok (.invokestatic 137, 3) := by decide +kernel
theorem dL_isTold_45 : decode cL_isTold 45 = .ok (.aload_n 3, 1) := by decide +kernel
theorem dL_isTold_46 : decode cL_isTold 46 = .ok (.iload 9, 2) := by decide +kernel
theorem dL_isTold_48 : decode cL_isTold 48 = .ok (.iaload, 1) := by decide +kernel
theorem dL_isTold_49 : decode cL_isTold 49 = .ok (.if_icmp .ne 125, 3) := by decide +kernel
theorem dL_isTold_52 : decode cL_isTold 52 = .ok (.aload_n 0, 1) := by decide +kernel
theorem dL_isTold_53 : decode cL_isTold 53 = .ok (.iload 10, 2) := by decide +kernel
theorem dL_isTold_55 : decode cL_isTold 55 = .ok (.iconst 0, 1) := by decide +kernel
theorem dL_isTold_56 : decode cL_isTold 56 = .ok (.invokestatic 139, 3) := by decide +kernel
theorem dL_isTold_59 : decode cL_isTold 59 = .ok (.aload_n 2, 1) := by decide +kernel
theorem dL_isTold_60 : decode cL_isTold 60 = .ok (.iload 9, 2) := by decide +kernel
theorem dL_isTold_62 : decode cL_isTold 62 = .ok (.iconst 3, 1) := by decide +kernel
theorem dL_isTold_63 : decode cL_isTold 63 = .ok (.idiv, 1) := by decide +kernel
theorem dL_isTold_64 : decode cL_isTold 64 = .ok (.iaload, 1) := by decide +kernel
theorem dL_isTold_65 : decode cL_isTold 65 = .ok (.if_icmp .ne 109, 3) := by decide +kernel
theorem dL_isTold_68 : decode cL_isTold 68 = .ok (.aload_n 0, 1) := by decide +kernel
theorem dL_isTold_69 : decode cL_isTold 69 = .ok (.iload 10, 2) := by decide +kernel
theorem dL_isTold_71 : decode cL_isTold 71 = .ok (.iconst 1, 1) := by decide +kernel
theorem dL_isTold_72 : decode cL_isTold 72 = .ok (.invokestatic 139, 3) := by decide +kernel
theorem dL_isTold_75 : decode cL_isTold 75 = .ok (.aload_n 3, 1) := by decide +kernel
theorem dL_isTold_76 : decode cL_isTold 76 = .ok (.bipush 24, 2) := by decide +kernel
theorem dL_isTold_78 : decode cL_isTold 78 = .ok (.iload 9, 2) := by decide +kernel
theorem dL_isTold_80 : decode cL_isTold 80 = .ok (.iadd, 1) := by decide +kernel
theorem dL_isTold_81 : decode cL_isTold 81 = .ok (.iaload, 1) := by decide +kernel
theorem dL_isTold_82 : decode cL_isTold 82 = .ok (.aload 8, 2) := by decide +kernel
theorem dL_isTold_84 : decode cL_isTold 84 = .ok (.iconst 0, 1) := by decide +kernel
theorem dL_isTold_85 : decode cL_isTold 85 = .ok (.iaload, 1) := by decide +kernel
theorem dL_isTold_86 : decode cL_isTold 86 = .ok (.if_icmp .lt 7, 3) := by decide +kernel
theorem dL_isTold_89 : decode cL_isTold 89 = .ok (.iconst 1, 1) := by decide +kernel
theorem dL_isTold_90 : decode cL_isTold 90 = .ok (.goto 4, 3) := by decide +kernel
theorem dL_isTold_93 : decode cL_isTold 93 = .ok (.iconst 0, 1) := by decide +kernel
theorem dL_isTold_94 : decode cL_isTold 94 = .ok (.if_icmp .ne 80, 3) := by decide +kernel
theorem dL_isTold_97 : decode cL_isTold 97 = .ok (.aload_n 0, 1) := by decide +kernel
theorem dL_isTold_98 : decode cL_isTold 98 = .ok (.iload 10, 2) := by decide +kernel
theorem dL_isTold_100 : decode cL_isTold 100 = .ok (.iconst 2, 1) := by decide +kernel
theorem dL_isTold_101 : decode cL_isTold 101 = .ok (.invokestatic 139, 3) := by decide +kernel
theorem dL_isTold_104 : decode cL_isTold 104 = .ok (.aload_n 3, 1) := by decide +kernel
theorem dL_isTold_105 : decode cL_isTold 105 = .ok (.bipush 36, 2) := by decide +kernel
theorem dL_isTold_107 : decode cL_isTold 107 = .ok (.iload 9, 2) := by decide +kernel
theorem dL_isTold_109 : decode cL_isTold 109 = .ok (.iadd, 1) := by decide +kernel
theorem dL_isTold_110 : decode cL_isTold 110 = .ok (.iaload, 1) := by decide +kernel
theorem dL_isTold_111 : decode cL_isTold 111 = .ok (.aload 8, 2) := by decide +kernel
theorem dL_isTold_113 : decode cL_isTold 113 = .ok (.iconst 0, 1) := by decide +kernel
theorem dL_isTold_114 : decode cL_isTold 114 = .ok (.iaload, 1) := by decide +kernel
theorem dL_isTold_115 : decode cL_isTold 115 = .ok (.if_icmp .lt 7, 3) := by decide +kernel
theorem dL_isTold_118 : decode cL_isTold 118 = .ok (.iconst 1, 1) := by decide +kernel
theorem dL_isTold_119 : decode cL_isTold 119 = .ok (.goto 4, 3) := by decide +kernel
theorem dL_isTold_122 : decode cL_isTold 122 = .ok (.iconst 0, 1) := by decide +kernel
theorem dL_isTold_123 : decode cL_isTold 123 = .ok (.if_icmp .ne 51, 3) := by decide +kernel
theorem dL_isTold_126 : decode cL_isTold 126 = .ok (.aload_n 0, 1) := by decide +kernel
theorem dL_isTold_127 : decode cL_isTold 127 = .ok (.iload 10, 2) := by decide +kernel
theorem dL_isTold_129 : decode cL_isTold 129 = .ok (.iconst 3, 1) := by decide +kernel
theorem dL_isTold_130 : decode cL_isTold 130 = .ok (.invokestatic 139, 3) := by decide +kernel
theorem dL_isTold_133 : decode cL_isTold 133 = .ok (.aload_n 3, 1) := by decide +kernel
theorem dL_isTold_134 : decode cL_isTold 134 = .ok (.bipush 48, 2) := by decide +kernel
theorem dL_isTold_136 : decode cL_isTold 136 = .ok (.iload 9, 2) := by decide +kernel
theorem dL_isTold_138 : decode cL_isTold 138 = .ok (.iadd, 1) := by decide +kernel
theorem dL_isTold_139 : decode cL_isTold 139 = .ok (.iaload, 1) := by decide +kernel
theorem dL_isTold_140 : decode cL_isTold 140 = .ok (.aload 8, 2) := by decide +kernel
theorem dL_isTold_142 : decode cL_isTold 142 = .ok (.iconst 0, 1) := by decide +kernel
theorem dL_isTold_143 : decode cL_isTold 143 = .ok (.iaload, 1) := by decide +kernel
theorem dL_isTold_144 : decode cL_isTold 144 = .ok (.if_icmp .lt 7, 3) := by decide +kernel
theorem dL_isTold_147 : decode cL_isTold 147 = .ok (.iconst 1, 1) := by decide +kernel
theorem dL_isTold_148 : decode cL_isTold 148 = .ok (.goto 4, 3) := by decide +kernel
theorem dL_isTold_151 : decode cL_isTold 151 = .ok (.iconst 0, 1) := by decide +kernel
theorem dL_isTold_152 : decode cL_isTold 152 = .ok (.if_icmp .ne 22, 3) := by decide +kernel
theorem dL_isTold_155 : decode cL_isTold 155 = .ok (.aload_n 0, 1) := by decide +kernel
theorem dL_isTold_156 : decode cL_isTold 156 = .ok (.iload 10, 2) := by decide +kernel
theorem dL_isTold_158 : decode cL_isTold 158 = .ok (.iconst 4, 1) := by decide +kernel
theorem dL_isTold_159 : decode cL_isTold 159 = .ok (.invokestatic 139, 3) := by decide +kernel
theorem dL_isTold_162 : decode cL_isTold 162 = .ok (.iload 9, 2) := by decide +kernel
theorem dL_isTold_164 : decode cL_isTold 164 = .ok (.aload 4, 2) := by decide +kernel
theorem dL_isTold_166 : decode cL_isTold 166 = .ok (.aload 8, 2) := by decide +kernel
theorem dL_isTold_168 : decode cL_isTold 168 = .ok (.invokestatic 142, 3) := by decide +kernel
theorem dL_isTold_171 : decode cL_isTold 171 = .ok (.if_icmp .eq 5, 3) := by decide +kernel
theorem dL_isTold_174 : decode cL_isTold 174 = .ok (.iconst 0, 1) := by decide +kernel
theorem dL_isTold_175 : decode cL_isTold 175 = .ok (.ireturn, 1) := by decide +kernel
theorem dL_isTold_176 : decode cL_isTold 176 = .ok (.iconst 0, 1) := by decide +kernel
theorem dL_isTold_177 : decode cL_isTold 177 = .ok (.istore 11, 2) := by decide +kernel
theorem dL_isTold_179 : decode cL_isTold 179 = .ok (.iload 11, 2) := by decide +kernel
theorem dL_isTold_181 : decode cL_isTold 181 = .ok (.bipush 6, 2) := by decide +kernel
theorem dL_isTold_183 : decode cL_isTold 183 = .ok (.if_icmp .ge 291, 3) := by decide +kernel
theorem dL_isTold_186 : decode cL_isTold 186 = .ok (.iconst 0, 1) := by decide +kernel
theorem dL_isTold_187 : decode cL_isTold 187 = .ok (.istore 12, 2) := by decide +kernel
theorem dL_isTold_189 : decode cL_isTold 189 = .ok (.iconst 0, 1) := by decide +kernel
theorem dL_isTold_190 : decode cL_isTold 190 = .ok (.istore 13, 2) := by decide +kernel
theorem dL_isTold_192 : decode cL_isTold 192 = .ok (.iconst 0, 1) := by decide +kernel
theorem dL_isTold_193 : decode cL_isTold 193 = .ok (.istore 14, 2) := by decide +kernel
theorem dL_isTold_195 : decode cL_isTold 195 = .ok (.iconst 0, 1) := by decide +kernel
theorem dL_isTold_196 : decode cL_isTold 196 = .ok (.istore 15, 2) := by decide +kernel
theorem dL_isTold_198 : decode cL_isTold 198 = .ok (.iload 15, 2) := by decide +kernel
theorem dL_isTold_200 : decode cL_isTold 200 = .ok (.iconst 4, 1) := by decide +kernel
theorem dL_isTold_201 : decode cL_isTold 201 = .ok (.if_icmp .ge 28, 3) := by decide +kernel
theorem dL_isTold_204 : decode cL_isTold 204 = .ok (.iload 12, 2) := by decide +kernel
theorem dL_isTold_206 : decode cL_isTold 206 = .ok (.aload_n 2, 1) := by decide +kernel
theorem dL_isTold_207 : decode cL_isTold 207 = .ok (.iload 15, 2) := by decide +kernel
theorem dL_isTold_209 : decode cL_isTold 209 = .ok (.iaload, 1) := by decide +kernel
theorem dL_isTold_210 : decode cL_isTold 210 = .ok (.iload 11, 2) := by decide +kernel
theorem dL_isTold_212 : decode cL_isTold 212 = .ok (.if_icmp .ne 7, 3) := by decide +kernel
theorem dL_isTold_215 : decode cL_isTold 215 = .ok (.iconst 1, 1) := by decide +kernel
theorem dL_isTold_216 : decode cL_isTold 216 = .ok (.goto 4, 3) := by decide +kernel
theorem dL_isTold_219 : decode cL_isTold 219 = .ok (.iconst 0, 1) := by decide +kernel
theorem dL_isTold_220 : decode cL_isTold 220 = .ok (.iadd, 1) := by decide +kernel
theorem dL_isTold_221 : decode cL_isTold 221 = .ok (.istore 12, 2) := by decide +kernel
theorem dL_isTold_223 : decode cL_isTold 223 = .ok (.iinc 15 1, 3) := by decide +kernel
theorem dL_isTold_226 : decode cL_isTold 226 = .ok (.goto (-28), 3) := by decide +kernel
theorem dL_isTold_229 : decode cL_isTold 229 = .ok (.iconst 0, 1) := by decide +kernel
theorem dL_isTold_230 : decode cL_isTold 230 = .ok (.istore 15, 2) := by decide +kernel
theorem dL_isTold_232 : decode cL_isTold 232 = .ok (.iload 15, 2) := by decide +kernel
theorem dL_isTold_234 : decode cL_isTold 234 = .ok (.bipush 12, 2) := by decide +kernel
theorem dL_isTold_236 : decode cL_isTold 236 = .ok (.if_icmp .ge 63, 3) := by decide +kernel
theorem dL_isTold_239 : decode cL_isTold 239 = .ok (.iload 13, 2) := by decide +kernel
theorem dL_isTold_241 : decode cL_isTold 241 = .ok (.aload_n 3, 1) := by decide +kernel
theorem dL_isTold_242 : decode cL_isTold 242 = .ok (.iload 15, 2) := by decide +kernel
theorem dL_isTold_244 : decode cL_isTold 244 = .ok (.iaload, 1) := by decide +kernel
theorem dL_isTold_245 : decode cL_isTold 245 = .ok (.iload 11, 2) := by decide +kernel
theorem dL_isTold_247 : decode cL_isTold 247 = .ok (.if_icmp .ne 7, 3) := by decide +kernel
theorem dL_isTold_250 : decode cL_isTold 250 = .ok (.iconst 1, 1) := by decide +kernel
theorem dL_isTold_251 : decode cL_isTold 251 = .ok (.goto 4, 3) := by decide +kernel
theorem dL_isTold_254 : decode cL_isTold 254 = .ok (.iconst 0, 1) := by decide +kernel
theorem dL_isTold_255 : decode cL_isTold 255 = .ok (.iadd, 1) := by decide +kernel
theorem dL_isTold_256 : decode cL_isTold 256 = .ok (.istore 13, 2) := by decide +kernel
theorem dL_isTold_258 : decode cL_isTold 258 = .ok (.iload 14, 2) := by decide +kernel
theorem dL_isTold_260 : decode cL_isTold 260 = .ok (.aload_n 3, 1) := by decide +kernel
theorem dL_isTold_261 : decode cL_isTold 261 = .ok (.iload 15, 2) := by decide +kernel
theorem dL_isTold_263 : decode cL_isTold 263 = .ok (.iaload, 1) := by decide +kernel
theorem dL_isTold_264 : decode cL_isTold 264 = .ok (.iconst (-1), 1) := by decide +kernel
theorem dL_isTold_265 : decode cL_isTold 265 = .ok (.if_icmp .eq 24, 3) := by decide +kernel
theorem dL_isTold_268 : decode cL_isTold 268 = .ok (.iload 11, 2) := by decide +kernel
theorem dL_isTold_270 : decode cL_isTold 270 = .ok (.iload 15, 2) := by decide +kernel
theorem dL_isTold_272 : decode cL_isTold 272 = .ok (.aload_n 2, 1) := by decide +kernel
theorem dL_isTold_273 : decode cL_isTold 273 = .ok (.aload 5, 2) := by decide +kernel
theorem dL_isTold_275 : decode cL_isTold 275 = .ok (.invokestatic 119, 3) := by decide +kernel
theorem dL_isTold_278 : decode cL_isTold 278 = .ok (.aload_n 3, 1) := by decide +kernel
theorem dL_isTold_279 : decode cL_isTold 279 = .ok (.iload 15, 2) := by decide +kernel
theorem dL_isTold_281 : decode cL_isTold 281 = .ok (.iaload, 1) := by decide +kernel
theorem dL_isTold_282 : decode cL_isTold 282 = .ok (.if_icmp .eq 7, 3) := by decide +kernel
theorem dL_isTold_285 : decode cL_isTold 285 = .ok (.iconst 1, 1) := by decide +kernel
theorem dL_isTold_286 : decode cL_isTold 286 = .ok (.goto 4, 3) := by decide +kernel
theorem dL_isTold_289 : decode cL_isTold 289 = .ok (.iconst 0, 1) := by decide +kernel
theorem dL_isTold_290 : decode cL_isTold 290 = .ok (.iadd, 1) := by decide +kernel
theorem dL_isTold_291 : decode cL_isTold 291 = .ok (.istore 14, 2) := by decide +kernel
theorem dL_isTold_293 : decode cL_isTold 293 = .ok (.iinc 15 1, 3) := by decide +kernel
theorem dL_isTold_296 : decode cL_isTold 296 = .ok (.goto (-64), 3) := by decide +kernel
theorem dL_isTold_299 : decode cL_isTold 299 = .ok (.aload_n 0, 1) := by decide +kernel
theorem dL_isTold_300 : decode cL_isTold 300 = .ok (.iload 11, 2) := by decide +kernel
theorem dL_isTold_302 : decode cL_isTold 302 = .ok (.iconst 0, 1) := by decide +kernel
theorem dL_isTold_303 : decode cL_isTold 303 = .ok (.invokestatic 146, 3) := by decide +kernel
theorem dL_isTold_306 : decode cL_isTold 306 = .ok (.aload 7, 2) := by decide +kernel
theorem dL_isTold_308 : decode cL_isTold 308 = .ok (.iload 11, 2) := by decide +kernel
theorem dL_isTold_310 : decode cL_isTold 310 = .ok (.iaload, 1) := by decide +kernel
theorem dL_isTold_311 : decode cL_isTold 311 = .ok (.invokestatic 114, 3) := by decide +kernel
theorem dL_isTold_314 : decode cL_isTold 314 = .ok (.ifCond .eq 7, 3) := by decide +kernel
theorem dL_isTold_317 : decode cL_isTold 317 = .ok (.iconst 1, 1) := by decide +kernel
theorem dL_isTold_318 : decode cL_isTold 318 = .ok (.goto 4, 3) := by decide +kernel
theorem dL_isTold_321 : decode cL_isTold 321 = .ok (.iconst 0, 1) := by decide +kernel
theorem dL_isTold_322 : decode cL_isTold 322 = .ok (.if_icmp .ne 110, 3) := by decide +kernel
theorem dL_isTold_325 : decode cL_isTold 325 = .ok (.aload_n 0, 1) := by decide +kernel
theorem dL_isTold_326 : decode cL_isTold 326 = .ok (.iload 11, 2) := by decide +kernel
theorem dL_isTold_328 : decode cL_isTold 328 = .ok (.iconst 1, 1) := by decide +kernel
theorem dL_isTold_329 : decode cL_isTold 329 = .ok (.invokestatic 146, 3) := by decide +kernel
theorem dL_isTold_332 : decode cL_isTold 332 = .ok (.iload 12, 2) := by decide +kernel
theorem dL_isTold_334 : decode cL_isTold 334 = .ok (.if_icmp .ne 98, 3) := by decide +kernel
theorem dL_isTold_337 : decode cL_isTold 337 = .ok (.aload_n 0, 1) := by decide +kernel
theorem dL_isTold_338 : decode cL_isTold 338 = .ok (.iload 11, 2) := by decide +kernel
theorem dL_isTold_340 : decode cL_isTold 340 = .ok (.iconst 2, 1) := by decide +kernel
theorem dL_isTold_341 : decode cL_isTold 341 = .ok (.invokestatic 146, 3) := by decide +kernel
theorem dL_isTold_344 : decode cL_isTold 344 = .ok (.iload 13, 2) := by decide +kernel
theorem dL_isTold_346 : decode cL_isTold 346 = .ok (.if_icmp .ne 86, 3) := by decide +kernel
theorem dL_isTold_349 : decode cL_isTold 349 = .ok (.aload_n 0, 1) := by decide +kernel
theorem dL_isTold_350 : decode cL_isTold 350 = .ok (.iload 11, 2) := by decide +kernel
theorem dL_isTold_352 : decode cL_isTold 352 = .ok (.iconst 3, 1) := by decide +kernel
theorem dL_isTold_353 : decode cL_isTold 353 = .ok (.invokestatic 146, 3) := by decide +kernel
theorem dL_isTold_356 : decode cL_isTold 356 = .ok (.aload 7, 2) := by decide +kernel
theorem dL_isTold_358 : decode cL_isTold 358 = .ok (.iload 11, 2) := by decide +kernel
theorem dL_isTold_360 : decode cL_isTold 360 = .ok (.iaload, 1) := by decide +kernel
theorem dL_isTold_361 : decode cL_isTold 361 = .ok (.invokestatic 104, 3) := by decide +kernel
theorem dL_isTold_364 : decode cL_isTold 364 = .ok (.ifCond .eq 7, 3) := by decide +kernel
theorem dL_isTold_367 : decode cL_isTold 367 = .ok (.iconst 1, 1) := by decide +kernel
theorem dL_isTold_368 : decode cL_isTold 368 = .ok (.goto 4, 3) := by decide +kernel
theorem dL_isTold_371 : decode cL_isTold 371 = .ok (.iconst 0, 1) := by decide +kernel
theorem dL_isTold_372 : decode cL_isTold 372 = .ok (.if_icmp .ne 60, 3) := by decide +kernel
theorem dL_isTold_375 : decode cL_isTold 375 = .ok (.aload_n 0, 1) := by decide +kernel
theorem dL_isTold_376 : decode cL_isTold 376 = .ok (.iload 11, 2) := by decide +kernel
theorem dL_isTold_378 : decode cL_isTold 378 = .ok (.iconst 4, 1) := by decide +kernel
theorem dL_isTold_379 : decode cL_isTold 379 = .ok (.invokestatic 146, 3) := by decide +kernel
theorem dL_isTold_382 : decode cL_isTold 382 = .ok (.aload 7, 2) := by decide +kernel
theorem dL_isTold_384 : decode cL_isTold 384 = .ok (.iload 11, 2) := by decide +kernel
theorem dL_isTold_386 : decode cL_isTold 386 = .ok (.iaload, 1) := by decide +kernel
theorem dL_isTold_387 : decode cL_isTold 387 = .ok (.bipush 63, 2) := by decide +kernel
theorem dL_isTold_389 : decode cL_isTold 389 = .ok (.iand, 1) := by decide +kernel
theorem dL_isTold_390 : decode cL_isTold 390 = .ok (.if_icmp .ne 42, 3) := by decide +kernel
theorem dL_isTold_393 : decode cL_isTold 393 = .ok (.aload_n 0, 1) := by decide +kernel
theorem dL_isTold_394 : decode cL_isTold 394 = .ok (.iload 11, 2) := by decide +kernel
theorem dL_isTold_396 : decode cL_isTold 396 = .ok (.iconst 5, 1) := by decide +kernel
theorem dL_isTold_397 : decode cL_isTold 397 = .ok (.invokestatic 146, 3) := by decide +kernel
theorem dL_isTold_400 : decode cL_isTold 400 = .ok (.aload 7, 2) := by decide +kernel
theorem dL_isTold_402 : decode cL_isTold 402 = .ok (.iload 11, 2) := by decide +kernel
theorem dL_isTold_404 : decode cL_isTold 404 = .ok (.iaload, 1) := by decide +kernel
theorem dL_isTold_405 : decode cL_isTold 405 = .ok (.invokestatic 148, 3) := by decide +kernel
theorem dL_isTold_408 : decode cL_isTold 408 = .ok (.if_icmp .ne 24, 3) := by decide +kernel
theorem dL_isTold_411 : decode cL_isTold 411 = .ok (.aload_n 0, 1) := by decide +kernel
theorem dL_isTold_412 : decode cL_isTold 412 = .ok (.iload 11, 2) := by decide +kernel
theorem dL_isTold_414 : decode cL_isTold 414 = .ok (.bipush 6, 2) := by decide +kernel
theorem dL_isTold_416 : decode cL_isTold 416 = .ok (.invokestatic 146, 3) := by decide +kernel
theorem dL_isTold_419 : decode cL_isTold 419 = .ok (.aload 8, 2) := by decide +kernel
theorem dL_isTold_421 : decode cL_isTold 421 = .ok (.iconst 2, 1) := by decide +kernel
theorem dL_isTold_422 : decode cL_isTold 422 = .ok (.iaload, 1) := by decide +kernel
theorem dL_isTold_423 : decode cL_isTold 423 = .ok (.aload 6, 2) := by decide +kernel
theorem dL_isTold_425 : decode cL_isTold 425 = .ok (.iload 11, 2) := by decide +kernel
theorem dL_isTold_427 : decode cL_isTold 427 = .ok (.iaload, 1) := by decide +kernel
theorem dL_isTold_428 : decode cL_isTold 428 = .ok (.isub, 1) := by decide +kernel
theorem dL_isTold_429 : decode cL_isTold 429 = .ok (.if_icmp .eq 5, 3) := by decide +kernel
theorem dL_isTold_432 : decode cL_isTold 432 = .ok (.iconst 0, 1) := by decide +kernel
theorem dL_isTold_433 : decode cL_isTold 433 = .ok (.ireturn, 1) := by decide +kernel
theorem dL_isTold_434 : decode cL_isTold 434 = .ok (.aload_n 0, 1) := by decide +kernel
theorem dL_isTold_435 : decode cL_isTold 435 = .ok (.iload 11, 2) := by decide +kernel
theorem dL_isTold_437 : decode cL_isTold 437 = .ok (.iload 10, 2) := by decide +kernel
theorem dL_isTold_439 : decode cL_isTold 439 = .ok (.invokestatic 151, 3) := by decide +kernel
theorem dL_isTold_442 : decode cL_isTold 442 = .ok (.iload 11, 2) := by decide +kernel
theorem dL_isTold_444 : decode cL_isTold 444 = .ok (.iload 9, 2) := by decide +kernel
theorem dL_isTold_446 : decode cL_isTold 446 = .ok (.aload_n 2, 1) := by decide +kernel
theorem dL_isTold_447 : decode cL_isTold 447 = .ok (.aload 5, 2) := by decide +kernel
theorem dL_isTold_449 : decode cL_isTold 449 = .ok (.invokestatic 119, 3) := by decide +kernel
theorem dL_isTold_452 : decode cL_isTold 452 = .ok (.if_icmp .ne 14, 3) := by decide +kernel
theorem dL_isTold_455 : decode cL_isTold 455 = .ok (.aload_n 0, 1) := by decide +kernel
theorem dL_isTold_456 : decode cL_isTold 456 = .ok (.iload 11, 2) := by decide +kernel
theorem dL_isTold_458 : decode cL_isTold 458 = .ok (.invokestatic 153, 3) := by decide +kernel
theorem dL_isTold_461 : decode cL_isTold 461 = .ok (.iload 14, 2) := by decide +kernel
theorem dL_isTold_463 : decode cL_isTold 463 = .ok (.if_icmp .eq 5, 3) := by decide +kernel
theorem dL_isTold_466 : decode cL_isTold 466 = .ok (.iconst 0, 1) := by decide +kernel
theorem dL_isTold_467 : decode cL_isTold 467 = .ok (.ireturn, 1) := by decide +kernel
theorem dL_isTold_468 : decode cL_isTold 468 = .ok (.iinc 11 1, 3) := by decide +kernel
theorem dL_isTold_471 : decode cL_isTold 471 = .ok (.goto (-292), 3) := by decide +kernel
theorem dL_isTold_474 : decode cL_isTold 474 = .ok (.aload 8, 2) := by decide +kernel
theorem dL_isTold_476 : decode cL_isTold 476 = .ok (.iconst 1, 1) := by decide +kernel
theorem dL_isTold_477 : decode cL_isTold 477 = .ok (.iaload, 1) := by decide +kernel
theorem dL_isTold_478 : decode cL_isTold 478 = .ok (.ifCond .ne 7, 3) := by decide +kernel
theorem dL_isTold_481 : decode cL_isTold 481 = .ok (.iconst (-1), 1) := by decide +kernel
theorem dL_isTold_482 : decode cL_isTold 482 = .ok (.goto 13, 3) := by decide +kernel
theorem dL_isTold_485 : decode cL_isTold 485 = .ok (.iload_n 1, 1) := by decide +kernel
theorem dL_isTold_486 : decode cL_isTold 486 = .ok (.iconst 4, 1) := by decide +kernel
theorem dL_isTold_487 : decode cL_isTold 487 = .ok (.ishr, 1) := by decide +kernel
theorem dL_isTold_488 : decode cL_isTold 488 = .ok (.aload 8, 2) := by decide +kernel
theorem dL_isTold_490 : decode cL_isTold 490 = .ok (.iconst 1, 1) := by decide +kernel
theorem dL_isTold_491 : decode cL_isTold 491 = .ok (.iaload, 1) := by decide +kernel
theorem dL_isTold_492 : decode cL_isTold 492 = .ok (.invokestatic 125, 3) := by decide +kernel
theorem dL_isTold_495 : decode cL_isTold 495 = .ok (.istore 11, 2) := by decide +kernel
theorem dL_isTold_497 : decode cL_isTold 497 = .ok (.iload 11, 2) := by decide +kernel
theorem dL_isTold_499 : decode cL_isTold 499 = .ok (.iconst (-1), 1) := by decide +kernel
theorem dL_isTold_500 : decode cL_isTold 500 = .ok (.if_icmp .eq 126, 3) := by decide +kernel
theorem dL_isTold_503 : decode cL_isTold 503 = .ok (.aload_n 0, 1) := by decide +kernel
theorem dL_isTold_504 : decode cL_isTold 504 = .ok (.iload 11, 2) := by decide +kernel
theorem dL_isTold_506 : decode cL_isTold 506 = .ok (.iconst 0, 1) := by decide +kernel
theorem dL_isTold_507 : decode cL_isTold 507 = .ok (.invokestatic 155, 3) := by decide +kernel
theorem dL_isTold_510 : decode cL_isTold 510 = .ok (.aload 4, 2) := by decide +kernel
theorem dL_isTold_512 : decode cL_isTold 512 = .ok (.iload 11, 2) := by decide +kernel
theorem dL_isTold_514 : decode cL_isTold 514 = .ok (.iaload, 1) := by decide +kernel
theorem dL_isTold_515 : decode cL_isTold 515 = .ok (.invokestatic 96, 3) := by decide +kernel
theorem dL_isTold_518 : decode cL_isTold 518 = .ok (.if_icmp .ne 106, 3) := by decide +kernel
theorem dL_isTold_521 : decode cL_isTold 521 = .ok (.aload_n 0, 1) := by decide +kernel
theorem dL_isTold_522 : decode cL_isTold 522 = .ok (.iload 11, 2) := by decide +kernel
theorem dL_isTold_524 : decode cL_isTold 524 = .ok (.iconst 1, 1) := by decide +kernel
theorem dL_isTold_525 : decode cL_isTold 525 = .ok (.invokestatic 155, 3) := by decide +kernel
theorem dL_isTold_528 : decode cL_isTold 528 = .ok (.aload 4, 2) := by decide +kernel
theorem dL_isTold_530 : decode cL_isTold 530 = .ok (.iload 11, 2) := by decide +kernel
theorem dL_isTold_532 : decode cL_isTold 532 = .ok (.iaload, 1) := by decide +kernel
theorem dL_isTold_533 : decode cL_isTold 533 = .ok (.iconst 3, 1) := by decide +kernel
theorem dL_isTold_534 : decode cL_isTold 534 = .ok (.ishr, 1) := by decide +kernel
theorem dL_isTold_535 : decode cL_isTold 535 = .ok (.bipush 7, 2) := by decide +kernel
theorem dL_isTold_537 : decode cL_isTold 537 = .ok (.iand, 1) := by decide +kernel
theorem dL_isTold_538 : decode cL_isTold 538 = .ok (.if_icmp .ne 86, 3) := by decide +kernel
theorem dL_isTold_541 : decode cL_isTold 541 = .ok (.aload_n 0, 1) := by decide +kernel
theorem dL_isTold_542 : decode cL_isTold 542 = .ok (.iload 11, 2) := by decide +kernel
theorem dL_isTold_544 : decode cL_isTold 544 = .ok (.iconst 2, 1) := by decide +kernel
theorem dL_isTold_545 : decode cL_isTold 545 = .ok (.invokestatic 155, 3) := by decide +kernel
theorem dL_isTold_548 : decode cL_isTold 548 = .ok (.aload 4, 2) := by decide +kernel
theorem dL_isTold_550 : decode cL_isTold 550 = .ok (.iload 11, 2) := by decide +kernel
theorem dL_isTold_552 : decode cL_isTold 552 = .ok (.iaload, 1) := by decide +kernel
theorem dL_isTold_553 : decode cL_isTold 553 = .ok (.bipush 6, 2) := by decide +kernel
theorem dL_isTold_555 : decode cL_isTold 555 = .ok (.ishr, 1) := by decide +kernel
theorem dL_isTold_556 : decode cL_isTold 556 = .ok (.bipush 15, 2) := by decide +kernel
theorem dL_isTold_558 : decode cL_isTold 558 = .ok (.iand, 1) := by decide +kernel
theorem dL_isTold_559 : decode cL_isTold 559 = .ok (.invokestatic 128, 3) := by decide +kernel
theorem dL_isTold_562 : decode cL_isTold 562 = .ok (.if_icmp .ne 62, 3) := by decide +kernel
theorem dL_isTold_565 : decode cL_isTold 565 = .ok (.aload_n 0, 1) := by decide +kernel
theorem dL_isTold_566 : decode cL_isTold 566 = .ok (.iload 11, 2) := by decide +kernel
theorem dL_isTold_568 : decode cL_isTold 568 = .ok (.iconst 3, 1) := by decide +kernel
theorem dL_isTold_569 : decode cL_isTold 569 = .ok (.invokestatic 155, 3) := by decide +kernel
theorem dL_isTold_572 : decode cL_isTold 572 = .ok (.aload 4, 2) := by decide +kernel
theorem dL_isTold_574 : decode cL_isTold 574 = .ok (.iload 11, 2) := by decide +kernel
theorem dL_isTold_576 : decode cL_isTold 576 = .ok (.iaload, 1) := by decide +kernel
theorem dL_isTold_577 : decode cL_isTold 577 = .ok (.invokestatic 157, 3) := by decide +kernel
theorem dL_isTold_580 : decode cL_isTold 580 = .ok (.if_icmp .ne 44, 3) := by decide +kernel
theorem dL_isTold_583 : decode cL_isTold 583 = .ok (.aload_n 0, 1) := by decide +kernel
theorem dL_isTold_584 : decode cL_isTold 584 = .ok (.iload 11, 2) := by decide +kernel
theorem dL_isTold_586 : decode cL_isTold 586 = .ok (.iconst 4, 1) := by decide +kernel
theorem dL_isTold_587 : decode cL_isTold 587 = .ok (.invokestatic 155, 3) := by decide +kernel
theorem dL_isTold_590 : decode cL_isTold 590 = .ok (.aload 4, 2) := by decide +kernel
theorem dL_isTold_592 : decode cL_isTold 592 = .ok (.iload 11, 2) := by decide +kernel
theorem dL_isTold_594 : decode cL_isTold 594 = .ok (.iaload, 1) := by decide +kernel
theorem dL_isTold_595 : decode cL_isTold 595 = .ok (.bipush 13, 2) := by decide +kernel
theorem dL_isTold_597 : decode cL_isTold 597 = .ok (.ishr, 1) := by decide +kernel
theorem dL_isTold_598 : decode cL_isTold 598 = .ok (.bipush 7, 2) := by decide +kernel
theorem dL_isTold_600 : decode cL_isTold 600 = .ok (.iand, 1) := by decide +kernel
theorem dL_isTold_601 : decode cL_isTold 601 = .ok (.iconst 1, 1) := by decide +kernel
theorem dL_isTold_602 : decode cL_isTold 602 = .ok (.isub, 1) := by decide +kernel
theorem dL_isTold_603 : decode cL_isTold 603 = .ok (.if_icmp .ne 21, 3) := by decide +kernel
theorem dL_isTold_606 : decode cL_isTold 606 = .ok (.aload_n 0, 1) := by decide +kernel
theorem dL_isTold_607 : decode cL_isTold 607 = .ok (.iload 11, 2) := by decide +kernel
theorem dL_isTold_609 : decode cL_isTold 609 = .ok (.iconst 5, 1) := by decide +kernel
theorem dL_isTold_610 : decode cL_isTold 610 = .ok (.invokestatic 155, 3) := by decide +kernel
theorem dL_isTold_613 : decode cL_isTold 613 = .ok (.aload 4, 2) := by decide +kernel
theorem dL_isTold_615 : decode cL_isTold 615 = .ok (.iload 11, 2) := by decide +kernel
theorem dL_isTold_617 : decode cL_isTold 617 = .ok (.iaload, 1) := by decide +kernel
theorem dL_isTold_618 : decode cL_isTold 618 = .ok (.invokestatic 101, 3) := by decide +kernel
theorem dL_isTold_621 : decode cL_isTold 621 = .ok (.if_icmp .eq 5, 3) := by decide +kernel
theorem dL_isTold_624 : decode cL_isTold 624 = .ok (.iconst 0, 1) := by decide +kernel
theorem dL_isTold_625 : decode cL_isTold 625 = .ok (.ireturn, 1) := by decide +kernel
theorem dL_isTold_626 : decode cL_isTold 626 = .ok (.aload 8, 2) := by decide +kernel
theorem dL_isTold_628 : decode cL_isTold 628 = .ok (.iconst 0, 1) := by decide +kernel
theorem dL_isTold_629 : decode cL_isTold 629 = .ok (.iaload, 1) := by decide +kernel
theorem dL_isTold_630 : decode cL_isTold 630 = .ok (.bipush 10, 2) := by decide +kernel
theorem dL_isTold_632 : decode cL_isTold 632 = .ok (.isub, 1) := by decide +kernel
theorem dL_isTold_633 : decode cL_isTold 633 = .ok (.iload_n 1, 1) := by decide +kernel
theorem dL_isTold_634 : decode cL_isTold 634 = .ok (.bipush 7, 2) := by decide +kernel
theorem dL_isTold_636 : decode cL_isTold 636 = .ok (.ishr, 1) := by decide +kernel
theorem dL_isTold_637 : decode cL_isTold 637 = .ok (.sipush 400, 3) := by decide +kernel
theorem dL_isTold_640 : decode cL_isTold 640 = .ok (.invokestatic 125, 3) := by decide +kernel
theorem dL_isTold_643 : decode cL_isTold 643 = .ok (.iadd, 1) := by decide +kernel
theorem dL_isTold_644 : decode cL_isTold 644 = .ok (.istore 12, 2) := by decide +kernel
theorem dL_isTold_646 : decode cL_isTold 646 = .ok (.iload 12, 2) := by decide +kernel
theorem dL_isTold_648 : decode cL_isTold 648 = .ok (.ifCond .lt 48, 3) := by decide +kernel
theorem dL_isTold_651 : decode cL_isTold 651 = .ok (.aload_n 0, 1) := by decide +kernel
theorem dL_isTold_652 : decode cL_isTold 652 = .ok (.iload 12, 2) := by decide +kernel
theorem dL_isTold_654 : decode cL_isTold 654 = .ok (.invokestatic 160, 3) := by decide +kernel
theorem dL_isTold_657 : decode cL_isTold 657 = .ok (.iload 12, 2) := by decide +kernel
theorem dL_isTold_659 : decode cL_isTold 659 = .ok (.aload 8, 2) := by decide +kernel
theorem dL_isTold_661 : decode cL_isTold 661 = .ok (.iconst 0, 1) := by decide +kernel
theorem dL_isTold_662 : decode cL_isTold 662 = .ok (.iaload, 1) := by decide +kernel
theorem dL_isTold_663 : decode cL_isTold 663 = .ok (.if_icmp .le 27, 3) := by decide +kernel
theorem dL_isTold_666 : decode cL_isTold 666 = .ok (.iload 12, 2) := by decide +kernel
theorem dL_isTold_668 : decode cL_isTold 668 = .ok (.bipush 100, 2) := by decide +kernel
theorem dL_isTold_670 : decode cL_isTold 670 = .ok (.irem, 1) := by decide +kernel
theorem dL_isTold_671 : decode cL_isTold 671 = .ok (.bipush 20, 2) := by decide +kernel
theorem dL_isTold_673 : decode cL_isTold 673 = .ok (.if_icmp .ge 17, 3) := by decide +kernel
theorem dL_isTold_676 : decode cL_isTold 676 = .ok (.iconst 3, 1) := by decide +kernel
theorem dL_isTold_677 : decode cL_isTold 677 = .ok (.iload 12, 2) := by decide +kernel
theorem dL_isTold_679 : decode cL_isTold 679 = .ok (.aload 4, 2) := by decide +kernel
theorem dL_isTold_681 : decode cL_isTold 681 = .ok (.aload 8, 2) := by decide +kernel
theorem dL_isTold_683 : decode cL_isTold 683 = .ok (.invokestatic 162, 3) := by decide +kernel
theorem dL_isTold_686 : decode cL_isTold 686 = .ok (.isub, 1) := by decide +kernel
theorem dL_isTold_687 : decode cL_isTold 687 = .ok (.goto 4, 3) := by decide +kernel
theorem dL_isTold_690 : decode cL_isTold 690 = .ok (.iconst 0, 1) := by decide +kernel
theorem dL_isTold_691 : decode cL_isTold 691 = .ok (.if_icmp .eq 5, 3) := by decide +kernel
theorem dL_isTold_694 : decode cL_isTold 694 = .ok (.iconst 0, 1) := by decide +kernel
theorem dL_isTold_695 : decode cL_isTold 695 = .ok (.ireturn, 1) := by decide +kernel
theorem dL_isTold_696 : decode cL_isTold 696 = .ok (.iload_n 1, 1) := by decide +kernel
theorem dL_isTold_697 : decode cL_isTold 697 = .ok (.bipush 9, 2) := by decide +kernel
theorem dL_isTold_699 : decode cL_isTold 699 = .ok (.ishr, 1) := by decide +kernel
theorem dL_isTold_700 : decode cL_isTold 700 = .ok (.bipush 6, 2) := by decide +kernel
theorem dL_isTold_702 : decode cL_isTold 702 = .ok (.invokestatic 125, 3) := by decide +kernel
theorem dL_isTold_705 : decode cL_isTold 705 = .ok (.istore 13, 2) := by decide +kernel
theorem dL_isTold_707 : decode cL_isTold 707 = .ok (.iconst 0, 1) := by decide +kernel
theorem dL_isTold_708 : decode cL_isTold 708 = .ok (.istore 14, 2) := by decide +kernel
theorem dL_isTold_710 : decode cL_isTold 710 = .ok (.iload 14, 2) := by decide +kernel
theorem dL_isTold_712 : decode cL_isTold 712 = .ok (.iconst 2, 1) := by decide +kernel
theorem dL_isTold_713 : decode cL_isTold 713 = .ok (.if_icmp .gt 147, 3) := by decide +kernel
theorem dL_isTold_716 : decode cL_isTold 716 = .ok (.iload 13, 2) := by decide +kernel
theorem dL_isTold_718 : decode cL_isTold 718 = .ok (.iload 9, 2) := by decide +kernel
theorem dL_isTold_720 : decode cL_isTold 720 = .ok (.iload 14, 2) := by decide +kernel
theorem dL_isTold_722 : decode cL_isTold 722 = .ok (.aload_n 2, 1) := by decide +kernel
theorem dL_isTold_723 : decode cL_isTold 723 = .ok (.aload_n 3, 1) := by decide +kernel
theorem dL_isTold_724 : decode cL_isTold 724 = .ok (.aload 5, 2) := by decide +kernel
theorem dL_isTold_726 : decode cL_isTold 726 = .ok (.aload 7, 2) := by decide +kernel
theorem dL_isTold_728 : decode cL_isTold 728 = .ok (.invokestatic 165, 3) := by decide +kernel
theorem dL_isTold_731 : decode cL_isTold 731 = .ok (.lstore 15, 2) := by decide +kernel
theorem dL_isTold_733 : decode cL_isTold 733 = .ok (.aload_n 0, 1) := by decide +kernel
theorem dL_isTold_734 : decode cL_isTold 734 = .ok (.iload 13, 2) := by decide +kernel
theorem dL_isTold_736 : decode cL_isTold 736 = .ok (.iload 10, 2) := by decide +kernel
theorem dL_isTold_738 : decode cL_isTold 738 = .ok (.iload 14, 2) := by decide +kernel
theorem dL_isTold_740 : decode cL_isTold 740 = .ok (.invokestatic 169, 3) := by decide +kernel
theorem dL_isTold_743 : decode cL_isTold 743 = .ok (.lload 15, 2) := by decide +kernel
theorem dL_isTold_745 : decode cL_isTold 745 = .ok (.ldc2_w 108, 3) := by decide +kernel
theorem dL_isTold_748 : decode cL_isTold 748 = .ok (.land, 1) := by decide +kernel
theorem dL_isTold_749 : decode cL_isTold 749 = .ok (.l2i, 1) := by decide +kernel
theorem dL_isTold_750 : decode cL_isTold 750 = .ok (.if_icmp .eq 5, 3) := by decide +kernel
theorem dL_isTold_753 : decode cL_isTold 753 = .ok (.iconst 0, 1) := by decide +kernel
theorem dL_isTold_754 : decode cL_isTold 754 = .ok (.ireturn, 1) := by decide +kernel
theorem dL_isTold_755 : decode cL_isTold 755 = .ok (.lload 15, 2) := by decide +kernel
theorem dL_isTold_757 : decode cL_isTold 757 = .ok (.iconst 3, 1) := by decide +kernel
theorem dL_isTold_758 : decode cL_isTold 758 = .ok (.lshr, 1) := by decide +kernel
theorem dL_isTold_759 : decode cL_isTold 759 = .ok (.lstore 15, 2) := by decide +kernel
theorem dL_isTold_761 : decode cL_isTold 761 = .ok (.iconst 0, 1) := by decide +kernel
theorem dL_isTold_762 : decode cL_isTold 762 = .ok (.istore 17, 2) := by decide +kernel
theorem dL_isTold_764 : decode cL_isTold 764 = .ok (.lload 15, 2) := by decide +kernel
theorem dL_isTold_766 : decode cL_isTold 766 = .ok (.lstore 18, 2) := by decide +kernel
theorem dL_isTold_768 : decode cL_isTold 768 = .ok (.lload 18, 2) := by decide +kernel
theorem dL_isTold_770 : decode cL_isTold 770 = .ok (.lconst 0, 1) := by decide +kernel
theorem dL_isTold_771 : decode cL_isTold 771 = .ok (.lcmp, 1) := by decide +kernel
theorem dL_isTold_772 : decode cL_isTold 772 = .ok (.ifCond .le 15, 3) := by decide +kernel
theorem dL_isTold_775 : decode cL_isTold 775 = .ok (.iinc 17 1, 3) := by decide +kernel
theorem dL_isTold_778 : decode cL_isTold 778 = .ok (.lload 18, 2) := by decide +kernel
theorem dL_isTold_780 : decode cL_isTold 780 = .ok (.iconst 4, 1) := by decide +kernel
theorem dL_isTold_781 : decode cL_isTold 781 = .ok (.lshr, 1) := by decide +kernel
theorem dL_isTold_782 : decode cL_isTold 782 = .ok (.lstore 18, 2) := by decide +kernel
theorem dL_isTold_784 : decode cL_isTold 784 = .ok (.goto (-16), 3) := by decide +kernel
theorem dL_isTold_787 : decode cL_isTold 787 = .ok (.iconst 0, 1) := by decide +kernel
theorem dL_isTold_788 : decode cL_isTold 788 = .ok (.istore 18, 2) := by decide +kernel
theorem dL_isTold_790 : decode cL_isTold 790 = .ok (.iload 18, 2) := by decide +kernel
theorem dL_isTold_792 : decode cL_isTold 792 = .ok (.iload 17, 2) := by decide +kernel
theorem dL_isTold_794 : decode cL_isTold 794 = .ok (.if_icmp .gt 60, 3) := by decide +kernel
theorem dL_isTold_797 : decode cL_isTold 797 = .ok (.iload 18, 2) := by decide +kernel
theorem dL_isTold_799 : decode cL_isTold 799 = .ok (.iload 17, 2) := by decide +kernel
theorem dL_isTold_801 : decode cL_isTold 801 = .ok (.if_icmp .ne 7, 3) := by decide +kernel
theorem dL_isTold_804 : decode cL_isTold 804 = .ok (.iconst (-1), 1) := by decide +kernel
theorem dL_isTold_805 : decode cL_isTold 805 = .ok (.goto 22, 3) := by decide +kernel
theorem dL_isTold_808 : decode cL_isTold 808 = .ok (.lload 15, 2) := by decide +kernel
theorem dL_isTold_810 : decode cL_isTold 810 = .ok (.iconst 4, 1) := by decide +kernel
theorem dL_isTold_811 : decode cL_isTold 811 = .ok (.iload 17, 2) := by decide +kernel
theorem dL_isTold_813 : decode cL_isTold 813 = .ok (.iconst 1, 1) := by decide +kernel
theorem dL_isTold_814 : decode cL_isTold 814 = .ok (.isub, 1) := by decide +kernel
theorem dL_isTold_815 : decode cL_isTold 815 = .ok (.iload 18, 2) := by decide +kernel
theorem dL_isTold_817 : decode cL_isTold 817 = .ok (.isub, 1) := by decide +kernel
theorem dL_isTold_818 : decode cL_isTold 818 = .ok (.imul, 1) := by decide +kernel
theorem dL_isTold_819 : decode cL_isTold 819 = .ok (.lshr, 1) := by decide +kernel
theorem dL_isTold_820 : decode cL_isTold 820 = .ok (.ldc2_w 172, 3) := by decide +kernel
theorem dL_isTold_823 : decode cL_isTold 823 = .ok (.land, 1) := by decide +kernel
theorem dL_isTold_824 : decode cL_isTold 824 = .ok (.l2i, 1) := by decide +kernel
theorem dL_isTold_825 : decode cL_isTold 825 = .ok (.iconst 1, 1) := by decide +kernel
theorem dL_isTold_826 : decode cL_isTold 826 = .ok (.isub, 1) := by decide +kernel
theorem dL_isTold_827 : decode cL_isTold 827 = .ok (.istore 19, 2) := by decide +kernel
theorem dL_isTold_829 : decode cL_isTold 829 = .ok (.aload_n 0, 1) := by decide +kernel
theorem dL_isTold_830 : decode cL_isTold 830 = .ok (.iload 13, 2) := by decide +kernel
theorem dL_isTold_832 : decode cL_isTold 832 = .ok (.iload 10, 2) := by decide +kernel
theorem dL_isTold_834 : decode cL_isTold 834 = .ok (.iload 14, 2) := by decide +kernel
theorem dL_isTold_836 : decode cL_isTold 836 = .ok (.iload 18, 2) := by decide +kernel
theorem dL_isTold_838 : decode cL_isTold 838 = .ok (.invokestatic 174, 3) := by decide +kernel
theorem dL_isTold_841 : decode cL_isTold 841 = .ok (.iload 19, 2) := by decide +kernel
theorem dL_isTold_843 : decode cL_isTold 843 = .ok (.if_icmp .eq 5, 3) := by decide +kernel
theorem dL_isTold_846 : decode cL_isTold 846 = .ok (.iconst 0, 1) := by decide +kernel
theorem dL_isTold_847 : decode cL_isTold 847 = .ok (.ireturn, 1) := by decide +kernel
theorem dL_isTold_848 : decode cL_isTold 848 = .ok (.iinc 18 1, 3) := by decide +kernel
theorem dL_isTold_851 : decode cL_isTold 851 = .ok (.goto (-61), 3) := by decide +kernel
theorem dL_isTold_854 : decode cL_isTold 854 = .ok (.iinc 14 1, 3) := by decide +kernel
theorem dL_isTold_857 : decode cL_isTold 857 = .ok (.goto (-147), 3) := by decide +kernel
theorem dL_isTold_860 : decode cL_isTold 860 = .ok (.aload_n 0, 1) := by decide +kernel
theorem dL_isTold_861 : decode cL_isTold 861 = .ok (.aload 8, 2) := by decide +kernel
theorem dL_isTold_863 : decode cL_isTold 863 = .ok (.iconst 1, 1) := by decide +kernel
theorem dL_isTold_864 : decode cL_isTold 864 = .ok (.iaload, 1) := by decide +kernel
theorem dL_isTold_865 : decode cL_isTold 865 = .ok (.iconst 0, 1) := by decide +kernel
theorem dL_isTold_866 : decode cL_isTold 866 = .ok (.invokestatic 155, 3) := by decide +kernel
theorem dL_isTold_869 : decode cL_isTold 869 = .ok (.sipush (-7100), 3) := by decide +kernel
theorem dL_isTold_872 : decode cL_isTold 872 = .ok (.if_icmp .ne 7, 3) := by decide +kernel
theorem dL_isTold_875 : decode cL_isTold 875 = .ok (.iconst 1, 1) := by decide +kernel
theorem dL_isTold_876 : decode cL_isTold 876 = .ok (.goto 4, 3) := by decide +kernel
theorem dL_isTold_879 : decode cL_isTold 879 = .ok (.iconst 0, 1) := by decide +kernel
theorem dL_isTold_880 : decode cL_isTold 880 = .ok (.ireturn, 1) := by decide +kernel
