theorem dL_take_4 : decode cL_take 4 = .ok (.iload_n 2, 1) := by decide +kernel
theorem dL_take_5 : decode cL_take 5 = .ok (.invokevirtual 49, 3) := by decide +kernel
theorem dL_take_8 : decode cL_take 8 = .ok (.lastore, 1) := by decide +kernel
theorem dL_take_9 : decode cL_take 9 = .ok (.goto 19, 3) := by decide +kernel
theorem dL_take_12 : decode cL_take 12 = .ok (.astore 4, 2) := by decide +kernel
theorem dL_take_14 : decode cL_take 14 = .ok (.iconst 1, 1) := by decide +kernel
theorem dL_take_15 : decode cL_take 15 = .ok (.ireturn, 1) := by decide +kernel
theorem dL_take_16 : decode cL_take 16 = .ok (.astore 4, 2) := by decide +kernel
theorem dL_take_18 : decode cL_take 18 = .ok (.iconst 2, 1) := by decide +kernel
theorem dL_take_19 : decode cL_take 19 = .ok (.ireturn, 1) := by decide +kernel
theorem dL_take_20 : decode cL_take 20 = .ok (.astore 4, 2) := by decide +kernel
theorem dL_take_22 : decode cL_take 22 = .ok (.iconst 3, 1) := by decide +kernel
theorem dL_take_23 : decode cL_take 23 = .ok (.ireturn, 1) := by decide +kernel
theorem dL_take_24 : decode cL_take 24 = .ok (.astore 4, 2) := by decide +kernel
theorem dL_take_26 : decode cL_take 26 = .ok (.iconst 4, 1) := by decide +kernel
theorem dL_take_27 : decode cL_take 27 = .ok (.ireturn, 1) := by decide +kernel
theorem dL_take_28 : decode cL_take 28 = .ok (.iconst 0, 1) := by decide +kernel
theorem dL_take_29 : decode cL_take 29 = .ok (.ireturn, 1) := by decide +kernel
theorem dL_put_0 : decode cL_put 0 = .ok (.aload 5, 2) := by decide +kernel
theorem dL_put_2 : decode cL_put 2 = .ok (.iconst 0, 1) := by decide +kernel
theorem dL_put_3 : decode cL_put 3 = .ok (.aload_n 0, 1) := by decide +kernel
theorem dL_put_4 : decode cL_put 4 = .ok (.iload_n 1, 1) := by decide +kernel
theorem dL_put_5 : decode cL_put 5 = .ok (.iload_n 2, 1) := by decide +kernel
theorem dL_put_6 : decode cL_put 6 = .ok (.lload_n 3, 1) := by decide +kernel
theorem dL_put_7 : decode cL_put 7 = .ok (.invokevirtual 53, 3) := by decide +kernel
theorem dL_put_10 : decode cL_put 10 = .ok (.lastore, 1) := by decide +kernel
theorem dL_put_11 : decode cL_put 11 = .ok (.goto 19, 3) := by decide +kernel
theorem dL_put_14 : decode cL_put 14 = .ok (.astore 6, 2) := by decide +kernel
theorem dL_put_16 : decode cL_put 16 = .ok (.iconst 1, 1) := by decide +kernel
theorem dL_put_17 : decode cL_put 17 = .ok (.ireturn, 1) := by decide +kernel
theorem dL_put_18 : decode cL_put 18 = .ok (.astore 6, 2) := by decide +kernel
theorem dL_put_20 : decode cL_put 20 = .ok (.iconst 2, 1) := by decide +kernel
theorem dL_put_21 : decode cL_put 21 = .ok (.ireturn, 1) := by decide +kernel
theorem dL_put_22 : decode cL_put 22 = .ok (.astore 6, 2) := by decide +kernel
theorem dL_put_24 : decode cL_put 24 = .ok (.iconst 3, 1) := by decide +kernel
theorem dL_put_25 : decode cL_put 25 = .ok (.ireturn, 1) := by decide +kernel
theorem dL_put_26 : decode cL_put 26 = .ok (.astore 6, 2) := by decide +kernel
theorem dL_put_28 : decode cL_put 28 = .ok (.iconst 4, 1) := by decide +kernel
theorem dL_put_29 : decode cL_put 29 = .ok (.ireturn, 1) := by decide +kernel
theorem dL_put_30 : decode cL_put 30 = .ok (.iconst 0, 1) := by decide +kernel
theorem dL_put_31 : decode cL_put 31 = .ok (.ireturn, 1) := by decide +kernel
theorem dL_cell_0 : decode cL_cell 0 = .ok (.aload 4, 2) := by decide +kernel
theorem dL_cell_2 : decode cL_cell 2 = .ok (.iconst 0, 1) := by decide +kernel
theorem dL_cell_3 : decode cL_cell 3 = .ok (.aload_n 0, 1) := by decide +kernel
theorem dL_cell_4 : decode cL_cell 4 = .ok (.iload_n 1, 1) := by decide +kernel
theorem dL_cell_5 : decode cL_cell 5 = .ok (.iload_n 2, 1) := by decide +kernel
theorem dL_cell_6 : decode cL_cell 6 = .ok (.iload_n 3, 1) := by decide +kernel
theorem dL_cell_7 : decode cL_cell 7 = .ok (.invokevirtual 57, 3) := by decide +kernel
theorem dL_cell_10 : decode cL_cell 10 = .ok (.i2l, 1) := by decide +kernel
theorem dL_cell_11 : decode cL_cell 11 = .ok (.lastore, 1) := by decide +kernel
theorem dL_cell_12 : decode cL_cell 12 = .ok (.goto 19, 3) := by decide +kernel
theorem dL_cell_15 : decode cL_cell 15 = .ok (.astore 5, 2) := by decide +kernel
theorem dL_cell_17 : decode cL_cell 17 = .ok (.iconst 1, 1) := by decide +kernel
theorem dL_cell_18 : decode cL_cell 18 = .ok (.ireturn, 1) := by decide +kernel
theorem dL_cell_19 : decode cL_cell 19 = .ok (.astore 5, 2) := by decide +kernel
theorem dL_cell_21 : decode cL_cell 21 = .ok (.iconst 2, 1) := by decide +kernel
theorem dL_cell_22 : decode cL_cell 22 = .ok (.ireturn, 1) := by decide +kernel
theorem dL_cell_23 : decode cL_cell 23 = .ok (.astore 5, 2) := by decide +kernel
theorem dL_cell_25 : decode cL_cell 25 = .ok (.iconst 3, 1) := by decide +kernel
theorem dL_cell_26 : decode cL_cell 26 = .ok (.ireturn, 1) := by decide +kernel
theorem dL_cell_27 : decode cL_cell 27 = .ok (.astore 5, 2) := by decide +kernel
theorem dL_cell_29 : decode cL_cell 29 = .ok (.iconst 4, 1) := by decide +kernel
theorem dL_cell_30 : decode cL_cell 30 = .ok (.ireturn, 1) := by decide +kernel
theorem dL_cell_31 : decode cL_cell 31 = .ok (.iconst 0, 1) := by decide +kernel
theorem dL_cell_32 : decode cL_cell 32 = .ok (.ireturn, 1) := by decide +kernel
theorem dL_setCell_0 : decode cL_setCell 0 = .ok (.aload_n 0, 1) := by decide +kernel
theorem dL_setCell_1 : decode cL_setCell 1 = .ok (.iload_n 1, 1) := by decide +kernel
theorem dL_setCell_2 : decode cL_setCell 2 = .ok (.iload_n 2, 1) := by decide +kernel
theorem dL_setCell_3 : decode cL_setCell 3 = .ok (.iload_n 3, 1) := by decide +kernel
theorem dL_setCell_4 : decode cL_setCell 4 = .ok (.iload 4, 2) := by decide +kernel
theorem dL_setCell_6 : decode cL_setCell 6 = .ok (.iload 5, 2) := by decide +kernel
theorem dL_setCell_8 : decode cL_setCell 8 = .ok (.invokevirtual 60, 3) := by decide +kernel
theorem dL_setCell_11 : decode cL_setCell 11 = .ok (.goto 23, 3) := by decide +kernel
theorem dL_setCell_14 : decode cL_setCell 14 = .ok (.astore 6, 2) := by decide +kernel
theorem dL_setCell_16 : decode cL_setCell 16 = .ok (.iconst 1, 1) := by decide +kernel
theorem dL_setCell_17 : decode cL_setCell 17 = .ok (.ireturn, 1) := by decide +kernel
theorem dL_setCell_18 : decode cL_setCell 18 = .ok (.astore 6, 2) := by decide +kernel
theorem dL_setCell_20 : decode cL_setCell 20 = .ok (.iconst 2, 1) := by decide +kernel
theorem dL_setCell_21 : decode cL_setCell 21 = .ok (.ireturn, 1) := by decide +kernel
theorem dL_setCell_22 : decode cL_setCell 22 = .ok (.astore 6, 2) := by decide +kernel
theorem dL_setCell_24 : decode cL_setCell 24 = .ok (.iconst 3, 1) := by decide +kernel
theorem dL_setCell_25 : decode cL_setCell 25 = .ok (.ireturn, 1) := by decide +kernel
theorem dL_setCell_26 : decode cL_setCell 26 = .ok (.astore 6, 2) := by decide +kernel
theorem dL_setCell_28 : decode cL_setCell 28 = .ok (.iconst 4, 1) := by decide +kernel
theorem dL_setCell_29 : decode cL_setCell 29 = .ok (.ireturn, 1) := by decide +kernel
theorem dL_setCell_30 : decode cL_setCell 30 = .ok (.astore 6, 2) := by decide +kernel
theorem dL_setCell_32 : decode cL_setCell 32 = .ok (.iconst 5, 1) := by decide +kernel
theorem dL_setCell_33 : decode cL_setCell 33 = .ok (.ireturn, 1) := by decide +kernel
theorem dL_setCell_34 : decode cL_setCell 34 = .ok (.iconst 0, 1) := by decide +kernel
theorem dL_setCell_35 : decode cL_setCell 35 = .ok (.ireturn, 1) := by decide +kernel
theorem dL_refer_0 : decode cL_refer 0 = .ok (.aload_n 0, 1) := by decide +kernel
theorem dL_refer_1 : decode cL_refer 1 = .ok (.iload_n 1, 1) := by decide +kernel
theorem dL_refer_2 : decode cL_refer 2 = .ok (.iload_n 2, 1) := by decide +kernel
theorem dL_refer_3 : decode cL_refer 3 = .ok (.iload_n 3, 1) := by decide +kernel
theorem dL_refer_4 : decode cL_refer 4 = .ok (.invokevirtual 66, 3) := by decide +kernel
theorem dL_refer_7 : decode cL_refer 7 = .ok (.goto 19, 3) := by decide +kernel
theorem dL_refer_10 : decode cL_refer 10 = .ok (.astore 4, 2) := by decide +kernel
theorem dL_refer_12 : decode cL_refer 12 = .ok (.iconst 1, 1) := by decide +kernel
theorem dL_refer_13 : decode cL_refer 13 = .ok (.ireturn, 1) := by decide +kernel
theorem dL_refer_14 : decode cL_refer 14 = .ok (.astore 4, 2) := by decide +kernel
theorem dL_refer_16 : decode cL_refer 16 = .ok (.iconst 2, 1) := by decide +kernel
theorem dL_refer_17 : decode cL_refer 17 = .ok (.ireturn, 1) := by decide +kernel
theorem dL_refer_18 : decode cL_refer 18 = .ok (.astore 4, 2) := by decide +kernel
theorem dL_refer_20 : decode cL_refer 20 = .ok (.iconst 3, 1) := by decide +kernel
theorem dL_refer_21 : decode cL_refer 21 = .ok (.ireturn, 1) := by decide +kernel
theorem dL_refer_22 : decode cL_refer 22 = .ok (.astore 4, 2) := by decide +kernel
theorem dL_refer_24 : decode cL_refer 24 = .ok (.iconst 4, 1) := by decide +kernel
theorem dL_refer_25 : decode cL_refer 25 = .ok (.ireturn, 1) := by decide +kernel
theorem dL_refer_26 : decode cL_refer 26 = .ok (.iconst 0, 1) := by decide +kernel
theorem dL_refer_27 : decode cL_refer 27 = .ok (.ireturn, 1) := by decide +kernel
theorem dL_fetch_0 : decode cL_fetch 0 = .ok (.aload 4, 2) := by decide +kernel
theorem dL_fetch_2 : decode cL_fetch 2 = .ok (.iconst 0, 1) := by decide +kernel
theorem dL_fetch_3 : decode cL_fetch 3 = .ok (.aload_n 0, 1) := by decide +kernel
theorem dL_fetch_4 : decode cL_fetch 4 = .ok (.iload_n 1, 1) := by decide +kernel
theorem dL_fetch_5 : decode cL_fetch 5 = .ok (.iload_n 2, 1) := by decide +kernel
theorem dL_fetch_6 : decode cL_fetch 6 = .ok (.iload_n 3, 1) := by decide +kernel
theorem dL_fetch_7 : decode cL_fetch 7 = .ok (.invokevirtual 70, 3) := by decide +kernel
theorem dL_fetch_10 : decode cL_fetch 10 = .ok (.i2l, 1) := by decide +kernel
theorem dL_fetch_11 : decode cL_fetch 11 = .ok (.lastore, 1) := by decide +kernel
theorem dL_fetch_12 : decode cL_fetch 12 = .ok (.goto 19, 3) := by decide +kernel
theorem dL_fetch_15 : decode cL_fetch 15 = .ok (.astore 5, 2) := by decide +kernel
theorem dL_fetch_17 : decode cL_fetch 17 = .ok (.iconst 1, 1) := by decide +kernel
theorem dL_fetch_18 : decode cL_fetch 18 = .ok (.ireturn, 1) := by decide +kernel
theorem dL_fetch_19 : decode cL_fetch 19 = .ok (.astore 5, 2) := by decide +kernel
theorem dL_fetch_21 : decode cL_fetch 21 = .ok (.iconst 2, 1) := by decide +kernel
theorem dL_fetch_22 : decode cL_fetch 22 = .ok (.ireturn, 1) := by decide +kernel
theorem dL_fetch_23 : decode cL_fetch 23 = .ok (.astore 5, 2) := by decide +kernel
theorem dL_fetch_25 : decode cL_fetch 25 = .ok (.iconst 3, 1) := by decide +kernel
theorem dL_fetch_26 : decode cL_fetch 26 = .ok (.ireturn, 1) := by decide +kernel
theorem dL_fetch_27 : decode cL_fetch 27 = .ok (.astore 5, 2) := by decide +kernel
theorem dL_fetch_29 : decode cL_fetch 29 = .ok (.iconst 4, 1) := by decide +kernel
theorem dL_fetch_30 : decode cL_fetch 30 = .ok (.ireturn, 1) := by decide +kernel
theorem dL_fetch_31 : decode cL_fetch 31 = .ok (.iconst 0, 1) := by decide +kernel
theorem dL_fetch_32 : decode cL_fetch 32 = .ok (.ireturn, 1) := by decide +kernel
theorem dL_link_0 : decode cL_link 0 = .ok (.aload_n 0, 1) := by decide +kernel
theorem dL_link_1 : decode cL_link 1 = .ok (.iload_n 1, 1) := by decide +kernel
theorem dL_link_2 : decode cL_link 2 = .ok (.iload_n 2, 1) := by decide +kernel
theorem dL_link_3 : decode cL_link 3 = .ok (.invokevirtual 73, 3) := by decide +kernel
theorem dL_link_6 : decode cL_link 6 = .ok (.goto 12, 3) := by decide +kernel
theorem dL_link_9 : decode cL_link 9 = .ok (.astore_n 3, 1) := by decide +kernel
theorem dL_link_10 : decode cL_link 10 = .ok (.iconst 1, 1) := by decide +kernel
theorem dL_link_11 : decode cL_link 11 = .ok (.ireturn, 1) := by decide +kernel
theorem dL_link_12 : decode cL_link 12 = .ok (.astore_n 3, 1) := by decide +kernel
theorem dL_link_13 : decode cL_link 13 = .ok (.iconst 2, 1) := by decide +kernel
theorem dL_link_14 : decode cL_link 14 = .ok (.ireturn, 1) := by decide +kernel
theorem dL_link_15 : decode cL_link 15 = .ok (.astore_n 3, 1) := by decide +kernel
theorem dL_link_16 : decode cL_link 16 = .ok (.iconst 3, 1) := by decide +kernel
theorem dL_link_17 : decode cL_link 17 = .ok (.ireturn, 1) := by decide +kernel
theorem dL_link_18 : decode cL_link 18 = .ok (.iconst 0, 1) := by decide +kernel
theorem dL_link_19 : decode cL_link 19 = .ok (.ireturn, 1) := by decide +kernel
theorem dL_follow_0 : decode cL_follow 0 = .ok (.aload_n 3, 1) := by decide +kernel
theorem dL_follow_1 : decode cL_follow 1 = .ok (.iconst 0, 1) := by decide +kernel
theorem dL_follow_2 : decode cL_follow 2 = .ok (.aload_n 0, 1) := by decide +kernel
theorem dL_follow_3 : decode cL_follow 3 = .ok (.iload_n 1, 1) := by decide +kernel
theorem dL_follow_4 : decode cL_follow 4 = .ok (.iload_n 2, 1) := by decide +kernel
theorem dL_follow_5 : decode cL_follow 5 = .ok (.invokevirtual 77, 3) := by decide +kernel
theorem dL_follow_8 : decode cL_follow 8 = .ok (.ifCond .eq 7, 3) := by decide +kernel
theorem dL_follow_11 : decode cL_follow 11 = .ok (.lconst 1, 1) := by decide +kernel
theorem dL_follow_12 : decode cL_follow 12 = .ok (.goto 4, 3) := by decide +kernel
theorem dL_follow_15 : decode cL_follow 15 = .ok (.lconst 0, 1) := by decide +kernel
theorem dL_follow_16 : decode cL_follow 16 = .ok (.lastore, 1) := by decide +kernel
theorem dL_follow_17 : decode cL_follow 17 = .ok (.goto 15, 3) := by decide +kernel
theorem dL_follow_20 : decode cL_follow 20 = .ok (.astore 4, 2) := by decide +kernel
theorem dL_follow_22 : decode cL_follow 22 = .ok (.iconst 1, 1) := by decide +kernel
theorem dL_follow_23 : decode cL_follow 23 = .ok (.ireturn, 1) := by decide +kernel
theorem dL_follow_24 : decode cL_follow 24 = .ok (.astore 4, 2) := by decide +kernel
theorem dL_follow_26 : decode cL_follow 26 = .ok (.iconst 2, 1) := by decide +kernel
theorem dL_follow_27 : decode cL_follow 27 = .ok (.ireturn, 1) := by decide +kernel
theorem dL_follow_28 : decode cL_follow 28 = .ok (.astore 4, 2) := by decide +kernel
theorem dL_follow_30 : decode cL_follow 30 = .ok (.iconst 3, 1) := by decide +kernel
theorem dL_follow_31 : decode cL_follow 31 = .ok (.ireturn, 1) := by decide +kernel
theorem dL_follow_32 : decode cL_follow 32 = .ok (.iconst 0, 1) := by decide +kernel
theorem dL_follow_33 : decode cL_follow 33 = .ok (.ireturn, 1) := by decide +kernel
theorem dL_exchange_0 : decode cL_exchange 0 = .ok (.aload 4, 2) := by decide +kernel
theorem dL_exchange_2 : decode cL_exchange 2 = .ok (.iconst 0, 1) := by decide +kernel
theorem dL_exchange_3 : decode cL_exchange 3 = .ok (.aload_n 0, 1) := by decide +kernel
theorem dL_exchange_4 : decode cL_exchange 4 = .ok (.iload_n 1, 1) := by decide +kernel
theorem dL_exchange_5 : decode cL_exchange 5 = .ok (.lload_n 2, 1) := by decide +kernel
theorem dL_exchange_6 : decode cL_exchange 6 = .ok (.invokevirtual 80, 3) := by decide +kernel
theorem dL_exchange_9 : decode cL_exchange 9 = .ok (.lastore, 1) := by decide +kernel
theorem dL_exchange_10 : decode cL_exchange 10 = .ok (.goto 15, 3) := by decide +kernel
theorem dL_exchange_13 : decode cL_exchange 13 = .ok (.astore 5, 2) := by decide +kernel
theorem dL_exchange_15 : decode cL_exchange 15 = .ok (.iconst 1, 1) := by decide +kernel
theorem dL_exchange_16 : decode cL_exchange 16 = .ok (.ireturn, 1) := by decide +kernel
theorem dL_exchange_17 : decode cL_exchange 17 = .ok (.astore 5, 2) := by decide +kernel
theorem dL_exchange_19 : decode cL_exchange 19 = .ok (.iconst 2, 1) := by decide +kernel
theorem dL_exchange_20 : decode cL_exchange 20 = .ok (.ireturn, 1) := by decide +kernel
theorem dL_exchange_21 : decode cL_exchange 21 = .ok (.astore 5, 2) := by decide +kernel
theorem dL_exchange_23 : decode cL_exchange 23 = .ok (.iconst 3, 1) := by decide +kernel
theorem dL_exchange_24 : decode cL_exchange 24 = .ok (.ireturn, 1) := by decide +kernel
theorem dL_exchange_25 : decode cL_exchange 25 = .ok (.iconst 0, 1) := by decide +kernel
theorem dL_exchange_26 : decode cL_exchange 26 = .ok (.ireturn, 1) := by decide +kernel
theorem dL_total_0 : decode cL_total 0 = .ok (.aload_n 2, 1) := by decide +kernel
theorem dL_total_1 : decode cL_total 1 = .ok (.iconst 0, 1) := by decide +kernel
theorem dL_total_2 : decode cL_total 2 = .ok (.aload_n 0, 1) := by decide +kernel
theorem dL_total_3 : decode cL_total 3 = .ok (.iload_n 1, 1) := by decide +kernel
theorem dL_total_4 : decode cL_total 4 = .ok (.invokevirtual 84, 3) := by decide +kernel
theorem dL_total_7 : decode cL_total 7 = .ok (.lastore, 1) := by decide +kernel
theorem dL_total_8 : decode cL_total 8 = .ok (.goto 12, 3) := by decide +kernel
theorem dL_total_11 : decode cL_total 11 = .ok (.astore_n 3, 1) := by decide +kernel
theorem dL_total_12 : decode cL_total 12 = .ok (.iconst 1, 1) := by decide +kernel
theorem dL_total_13 : decode cL_total 13 = .ok (.ireturn, 1) := by decide +kernel
theorem dL_total_14 : decode cL_total 14 = .ok (.astore_n 3, 1) := by decide +kernel
theorem dL_total_15 : decode cL_total 15 = .ok (.iconst 2, 1) := by decide +kernel
theorem dL_total_16 : decode cL_total 16 = .ok (.ireturn, 1) := by decide +kernel
theorem dL_total_17 : decode cL_total 17 = .ok (.astore_n 3, 1) := by decide +kernel
theorem dL_total_18 : decode cL_total 18 = .ok (.iconst 3, 1) := by decide +kernel
theorem dL_total_19 : decode cL_total 19 = .ok (.ireturn, 1) := by decide +kernel
theorem dL_total_20 : decode cL_total 20 = .ok (.iconst 0, 1) := by decide +kernel
theorem dL_total_21 : decode cL_total 21 = .ok (.ireturn, 1) := by decide +kernel
theorem dL_combine_0 : decode cL_combine 0 = .ok (.aload 6, 2) := by decide +kernel
theorem dL_combine_2 : decode cL_combine 2 = .ok (.iconst 0, 1) := by decide +kernel
theorem dL_combine_3 : decode cL_combine 3 = .ok (.aload_n 0, 1) := by decide +kernel
theorem dL_combine_4 : decode cL_combine 4 = .ok (.iload_n 1, 1) := by decide +kernel
theorem dL_combine_5 : decode cL_combine 5 = .ok (.iload_n 2, 1) := by decide +kernel
theorem dL_combine_6 : decode cL_combine 6 = .ok (.iload_n 3, 1) := by decide +kernel
theorem dL_combine_7 : decode cL_combine 7 = .ok (.iload 4, 2) := by decide +kernel
theorem dL_combine_9 : decode cL_combine 9 = .ok (.iload 5, 2) := by decide +kernel
theorem dL_combine_11 : decode cL_combine 11 = .ok (.invokevirtual 88, 3) := by decide +kernel
theorem dL_combine_14 : decode cL_combine 14 = .ok (.lastore, 1) := by decide +kernel
theorem dL_combine_15 : decode cL_combine 15 = .ok (.goto 23, 3) := by decide +kernel
theorem dL_combine_18 : decode cL_combine 18 = .ok (.astore 7, 2) := by decide +kernel
theorem dL_combine_20 : decode cL_combine 20 = .ok (.iconst 1, 1) := by decide +kernel
theorem dL_combine_21 : decode cL_combine 21 = .ok (.ireturn, 1) := by decide +kernel
theorem dL_combine_22 : decode cL_combine 22 = .ok (.astore 7, 2) := by decide +kernel
theorem dL_combine_24 : decode cL_combine 24 = .ok (.iconst 2, 1) := by decide +kernel
theorem dL_combine_25 : decode cL_combine 25 = .ok (.ireturn, 1) := by decide +kernel
theorem dL_combine_26 : decode cL_combine 26 = .ok (.astore 7, 2) := by decide +kernel
theorem dL_combine_28 : decode cL_combine 28 = .ok (.iconst 3, 1) := by decide +kernel
theorem dL_combine_29 : decode cL_combine 29 = .ok (.ireturn, 1) := by decide +kernel
theorem dL_combine_30 : decode cL_combine 30 = .ok (.astore 7, 2) := by decide +kernel
theorem dL_combine_32 : decode cL_combine 32 = .ok (.iconst 4, 1) := by decide +kernel
theorem dL_combine_33 : decode cL_combine 33 = .ok (.ireturn, 1) := by decide +kernel
theorem dL_combine_34 : decode cL_combine 34 = .ok (.astore 7, 2) := by decide +kernel
theorem dL_combine_36 : decode cL_combine 36 = .ok (.iconst 5, 1) := by decide +kernel
theorem dL_combine_37 : decode cL_combine 37 = .ok (.ireturn, 1) := by decide +kernel
theorem dL_combine_38 : decode cL_combine 38 = .ok (.iconst 0, 1) := by decide +kernel
theorem dL_combine_39 : decode cL_combine 39 = .ok (.ireturn, 1) := by decide +kernel
theorem dL_move_0 : decode cL_move 0 = .ok (.aload 6, 2) := by decide +kernel
theorem dL_move_2 : decode cL_move 2 = .ok (.iconst 0, 1) := by decide +kernel
theorem dL_move_3 : decode cL_move 3 = .ok (.aload_n 0, 1) := by decide +kernel
theorem dL_move_4 : decode cL_move 4 = .ok (.iload_n 1, 1) := by decide +kernel
theorem dL_move_5 : decode cL_move 5 = .ok (.iload_n 2, 1) := by decide +kernel
theorem dL_move_6 : decode cL_move 6 = .ok (.iload_n 3, 1) := by decide +kernel
theorem dL_move_7 : decode cL_move 7 = .ok (.iload 4, 2) := by decide +kernel
theorem dL_move_9 : decode cL_move 9 = .ok (.iload 5, 2) := by decide +kernel
theorem dL_move_11 : decode cL_move 11 = .ok (.invokevirtual 92, 3) := by decide +kernel
theorem dL_move_14 : decode cL_move 14 = .ok (.i2l, 1) := by decide +kernel
theorem dL_move_15 : decode cL_move 15 = .ok (.lastore, 1) := by decide +kernel
theorem dL_move_16 : decode cL_move 16 = .ok (.goto 19, 3) := by decide +kernel
theorem dL_move_19 : decode cL_move 19 = .ok (.astore 7, 2) := by decide +kernel
theorem dL_move_21 : decode cL_move 21 = .ok (.iconst 1, 1) := by decide +kernel
theorem dL_move_22 : decode cL_move 22 = .ok (.ireturn, 1) := by decide +kernel
theorem dL_move_23 : decode cL_move 23 = .ok (.astore 7, 2) := by decide +kernel
theorem dL_move_25 : decode cL_move 25 = .ok (.iconst 2, 1) := by decide +kernel
theorem dL_move_26 : decode cL_move 26 = .ok (.ireturn, 1) := by decide +kernel
theorem dL_move_27 : decode cL_move 27 = .ok (.astore 7, 2) := by decide +kernel
theorem dL_move_29 : decode cL_move 29 = .ok (.iconst 3, 1) := by decide +kernel
theorem dL_move_30 : decode cL_move 30 = .ok (.ireturn, 1) := by decide +kernel
theorem dL_move_31 : decode cL_move 31 = .ok (.astore 7, 2) := by decide +kernel
theorem dL_move_33 : decode cL_move 33 = .ok (.iconst 4, 1) := by decide +kernel
theorem dL_move_34 : decode cL_move 34 = .ok (.ireturn, 1) := by decide +kernel
theorem dL_move_35 : decode cL_move 35 = .ok (.iconst 0, 1) := by decide +kernel
theorem dL_move_36 : decode cL_move 36 = .ok (.ireturn, 1) := by decide +kernel
theorem dL_law_0 : decode cL_law 0 = .ok (.new 8, 3) := by decide +kernel
theorem dL_law_3 : decode cL_law 3 = .ok (.dup, 1) := by decide +kernel
theorem dL_law_4 : decode cL_law 4 = .ok (.invokespecial 96, 3) := by decide +kernel
theorem dL_law_7 : decode cL_law 7 = .ok (.astore_n 1, 1) := by decide +kernel
theorem dL_law_8 : decode cL_law 8 = .ok (.new 97, 3) := by decide +kernel
theorem dL_law_11 : decode cL_law 11 = .ok (.dup, 1) := by decide +kernel
theorem dL_law_12 : decode cL_law 12 = .ok (.invokespecial 99, 3) := by decide +kernel
theorem dL_law_15 : decode cL_law 15 = .ok (.astore_n 2, 1) := by decide +kernel
theorem dL_law_16 : decode cL_law 16 = .ok (.iconst 1, 1) := by decide +kernel
theorem dL_law_17 : decode cL_law 17 = .ok (.newarray .long, 2) := by decide +kernel
theorem dL_law_19 : decode cL_law 19 = .ok (.astore_n 3, 1) := by decide +kernel
theorem dL_law_20 : decode cL_law 20 = .ok (.iconst 0, 1) := by decide +kernel
theorem dL_law_21 : decode cL_law 21 = .ok (.istore 4, 2) := by decide +kernel
theorem dL_law_23 : decode cL_law 23 = .ok (.iload 4, 2) := by decide +kernel
theorem dL_law_25 : decode cL_law 25 = .ok (.aload_n 0, 1) := by decide +kernel
theorem dL_law_26 : decode cL_law 26 = .ok (.arraylength, 1) := by decide +kernel
theorem dL_law_27 : decode cL_law 27 = .ok (.bipush 6, 2) := by decide +kernel
theorem dL_law_29 : decode cL_law 29 = .ok (.isub, 1) := by decide +kernel
theorem dL_law_30 : decode cL_law 30 = .ok (.if_icmp .gt 1641, 3) := by decide +kernel
theorem dL_law_33 : decode cL_law 33 = .ok (.aload_n 0, 1) := by decide +kernel
theorem dL_law_34 : decode cL_law 34 = .ok (.iload 4, 2) := by decide +kernel
theorem dL_law_36 : decode cL_law 36 = .ok (.iaload, 1) := by decide +kernel
theorem dL_law_37 : decode cL_law 37 = .ok (.bipush 31, 2) := by decide +kernel
theorem dL_law_39 : decode cL_law 39 = .ok (.iand, 1) := by decide +kernel
theorem dL_law_40 : decode cL_law 40 = .ok (.tableswitch 1625 0 19 #[96, 176, 256, 312, 392, 467, 535, 603, 659, 726, 837, 917, 1001, 1061, 1141, 1189, 1264, 1363, 1418, 1521], 96) := by decide +kernel
theorem dL_law_136 : decode cL_law 136 = .ok (.aload_n 1, 1) := by decide +kernel
theorem dL_law_137 : decode cL_law 137 = .ok (.aload_n 0, 1) := by decide +kernel
theorem dL_law_138 : decode cL_law 138 = .ok (.iload 4, 2) := by decide +kernel
theorem dL_law_140 : decode cL_law 140 = .ok (.iconst 1, 1) := by decide +kernel
theorem dL_law_141 : decode cL_law 141 = .ok (.iadd, 1) := by decide +kernel
theorem dL_law_142 : decode cL_law 142 = .ok (.iaload, 1) := by decide +kernel
theorem dL_law_143 : decode cL_law 143 = .ok (.aload_n 0, 1) := by decide +kernel
theorem dL_law_144 : decode cL_law 144 = .ok (.iload 4, 2) := by decide +kernel
theorem dL_law_146 : decode cL_law 146 = .ok (.iconst 2, 1) := by decide +kernel
theorem dL_law_147 : decode cL_law 147 = .ok (.iadd, 1) := by decide +kernel
theorem dL_law_148 : decode cL_law 148 = .ok (.iaload, 1) := by decide +kernel
theorem dL_law_149 : decode cL_law 149 = .ok (.aload_n 0, 1) := by decide +kernel
theorem dL_law_150 : decode cL_law 150 = .ok (.iload 4, 2) := by decide +kernel
theorem dL_law_152 : decode cL_law 152 = .ok (.iconst 3, 1) := by decide +kernel
theorem dL_law_153 : decode cL_law 153 = .ok (.iadd, 1) := by decide +kernel
theorem dL_law_154 : decode cL_law 154 = .ok (.iaload, 1) := by decide +kernel
theorem dL_law_155 : decode cL_law 155 = .ok (.aload_n 3, 1) := by decide +kernel
theorem dL_law_156 : decode cL_law 156 = .ok (.invokestatic 100, 3) := by decide +kernel
theorem dL_law_159 : decode cL_law 159 = .ok (.istore 5, 2) := by decide +kernel
theorem dL_law_161 : decode cL_law 161 = .ok (.aload_n 2, 1) := by decide +kernel
theorem dL_law_162 : decode cL_law 162 = .ok (.aload_n 0, 1) := by decide +kernel
theorem dL_law_163 : decode cL_law 163 = .ok (.iload 4, 2) := by decide +kernel
theorem dL_law_165 : decode cL_law 165 = .ok (.iconst 1, 1) := by decide +kernel
theorem dL_law_166 : decode cL_law 166 = .ok (.iadd, 1) := by decide +kernel
theorem dL_law_167 : decode cL_law 167 = .ok (.iaload, 1) := by decide +kernel
theorem dL_law_168 : decode cL_law 168 = .ok (.aload_n 0, 1) := by decide +kernel
theorem dL_law_169 : decode cL_law 169 = .ok (.iload 4, 2) := by decide +kernel
theorem dL_law_171 : decode cL_law 171 = .ok (.iconst 2, 1) := by decide +kernel
theorem dL_law_172 : decode cL_law 172 = .ok (.iadd, 1) := by decide +kernel
theorem dL_law_173 : decode cL_law 173 = .ok (.iaload, 1) := by decide +kernel
theorem dL_law_174 : decode cL_law 174 = .ok (.aload_n 0, 1) := by decide +kernel
theorem dL_law_175 : decode cL_law 175 = .ok (.iload 4, 2) := by decide +kernel
theorem dL_law_177 : decode cL_law 177 = .ok (.iconst 3, 1) := by decide +kernel
theorem dL_law_178 : decode cL_law 178 = .ok (.iadd, 1) := by decide +kernel
theorem dL_law_179 : decode cL_law 179 = .ok (.iaload, 1) := by decide +kernel
theorem dL_law_180 : decode cL_law 180 = .ok (.invokevirtual 105, 3) := by decide +kernel
theorem dL_law_183 : decode cL_law 183 = .ok (.istore 6, 2) := by decide +kernel
theorem dL_law_185 : decode cL_law 185 = .ok (.aload_n 2, 1) := by decide +kernel
theorem dL_law_186 : decode cL_law 186 = .ok (.invokevirtual 106, 3) := by decide +kernel
theorem dL_law_189 : decode cL_law 189 = .ok (.iload 5, 2) := by decide +kernel
theorem dL_law_191 : decode cL_law 191 = .ok (.if_icmp .eq 5, 3) := by decide +kernel
theorem dL_law_194 : decode cL_law 194 = .ok (.iconst 0, 1) := by decide +kernel
theorem dL_law_195 : decode cL_law 195 = .ok (.ireturn, 1) := by decide +kernel
theorem dL_law_196 : decode cL_law 196 = .ok (.iload 5, 2) := by decide +kernel
theorem dL_law_198 : decode cL_law 198 = .ok (.ifCond .ne 15, 3) := by decide +kernel
theorem dL_law_201 : decode cL_law 201 = .ok (.aload_n 3, 1) := by decide +kernel
theorem dL_law_202 : decode cL_law 202 = .ok (.iconst 0, 1) := by decide +kernel
theorem dL_law_203 : decode cL_law 203 = .ok (.laload, 1) := by decide +kernel
theorem dL_law_204 : decode cL_law 204 = .ok (.iload 6, 2) := by decide +kernel
theorem dL_law_206 : decode cL_law 206 = .ok (.i2l, 1) := by decide +kernel
theorem dL_law_207 : decode cL_law 207 = .ok (.lcmp, 1) := by decide +kernel
theorem dL_law_208 : decode cL_law 208 = .ok (.ifCond .eq 5, 3) := by decide +kernel
theorem dL_law_211 : decode cL_law 211 = .ok (.iconst 0, 1) := by decide +kernel
theorem dL_law_212 : decode cL_law 212 = .ok (.ireturn, 1) := by decide +kernel
theorem dL_law_213 : decode cL_law 213 = .ok (.goto 1452, 3) := by decide +kernel
theorem dL_law_216 : decode cL_law 216 = .ok (.aload_n 1, 1) := by decide +kernel
theorem dL_law_217 : decode cL_law 217 = .ok (.aload_n 0, 1) := by decide +kernel
theorem dL_law_218 : decode cL_law 218 = .ok (.iload 4, 2) := by decide +kernel
theorem dL_law_220 : decode cL_law 220 = .ok (.iconst 1, 1) := by decide +kernel
theorem dL_law_221 : decode cL_law 221 = .ok (.iadd, 1) := by decide +kernel
theorem dL_law_222 : decode cL_law 222 = .ok (.iaload, 1) := by decide +kernel
theorem dL_law_223 : decode cL_law 223 = .ok (.aload_n 0, 1) := by decide +kernel
theorem dL_law_224 : decode cL_law 224 = .ok (.iload 4, 2) := by decide +kernel
theorem dL_law_226 : decode cL_law 226 = .ok (.iconst 2, 1) := by decide +kernel
theorem dL_law_227 : decode cL_law 227 = .ok (.iadd, 1) := by decide +kernel
theorem dL_law_228 : decode cL_law 228 = .ok (.iaload, 1) := by decide +kernel
theorem dL_law_229 : decode cL_law 229 = .ok (.aload_n 0, 1) := by decide +kernel
theorem dL_law_230 : decode cL_law 230 = .ok (.iload 4, 2) := by decide +kernel
theorem dL_law_232 : decode cL_law 232 = .ok (.iconst 3, 1) := by decide +kernel
theorem dL_law_233 : decode cL_law 233 = .ok (.iadd, 1) := by decide +kernel
theorem dL_law_234 : decode cL_law 234 = .ok (.iaload, 1) := by decide +kernel
theorem dL_law_235 : decode cL_law 235 = .ok (.aload_n 3, 1) := by decide +kernel
theorem dL_law_236 : decode cL_law 236 = .ok (.invokestatic 110, 3) := by decide +kernel
theorem dL_law_239 : decode cL_law 239 = .ok (.istore 5, 2) := by decide +kernel
theorem dL_law_241 : decode cL_law 241 = .ok (.aload_n 2, 1) := by decide +kernel
theorem dL_law_242 : decode cL_law 242 = .ok (.aload_n 0, 1) := by decide +kernel
theorem dL_law_243 : decode cL_law 243 = .ok (.iload 4, 2) := by decide +kernel
theorem dL_law_245 : decode cL_law 245 = .ok (.iconst 1, 1) := by decide +kernel
theorem dL_law_246 : decode cL_law 246 = .ok (.iadd, 1) := by decide +kernel
theorem dL_law_247 : decode cL_law 247 = .ok (.iaload, 1) := by decide +kernel
theorem dL_law_248 : decode cL_law 248 = .ok (.aload_n 0, 1) := by decide +kernel
theorem dL_law_249 : decode cL_law 249 = .ok (.iload 4, 2) := by decide +kernel
theorem dL_law_251 : decode cL_law 251 = .ok (.iconst 2, 1) := by decide +kernel
theorem dL_law_252 : decode cL_law 252 = .ok (.iadd, 1) := by decide +kernel
theorem dL_law_253 : decode cL_law 253 = .ok (.iaload, 1) := by decide +kernel
theorem dL_law_254 : decode cL_law 254 = .ok (.aload_n 0, 1) := by decide +kernel
theorem dL_law_255 : decode cL_law 255 = .ok (.iload 4, 2) := by decide +kernel
theorem dL_law_257 : decode cL_law 257 = .ok (.iconst 3, 1) := by decide +kernel
theorem dL_law_258 : decode cL_law 258 = .ok (.iadd, 1) := by decide +kernel
theorem dL_law_259 : decode cL_law 259 = .ok (.iaload, 1) := by decide +kernel
theorem dL_law_260 : decode cL_law 260 = .ok (.invokevirtual 112, 3) := by decide +kernel
theorem dL_law_263 : decode cL_law 263 = .ok (.istore 6, 2) := by decide +kernel
theorem dL_law_265 : decode cL_law 265 = .ok (.aload_n 2, 1) := by decide +kernel
theorem dL_law_266 : decode cL_law 266 = .ok (.invokevirtual 106, 3) := by decide +kernel
theorem dL_law_269 : decode cL_law 269 = .ok (.iload 5, 2) := by decide +kernel
theorem dL_law_271 : decode cL_law 271 = .ok (.if_icmp .eq 5, 3) := by decide +kernel
theorem dL_law_274 : decode cL_law 274 = .ok (.iconst 0, 1) := by decide +kernel
theorem dL_law_275 : decode cL_law 275 = .ok (.ireturn, 1) := by decide +kernel
theorem dL_law_276 : decode cL_law 276 = .ok (.iload 5, 2) := by decide +kernel
theorem dL_law_278 : decode cL_law 278 = .ok (.ifCond .ne 15, 3) := by decide +kernel
theorem dL_law_281 : decode cL_law 281 = .ok (.aload_n 3, 1) := by decide +kernel
theorem dL_law_282 : decode cL_law 282 = .ok (.iconst 0, 1) := by decide +kernel
theorem dL_law_283 : decode cL_law 283 = .ok (.laload, 1) := by decide +kernel
theorem dL_law_284 : decode cL_law 284 = .ok (.iload 6, 2) := by decide +kernel
theorem dL_law_286 : decode cL_law 286 = .ok (.i2l, 1) := by decide +kernel
theorem dL_law_287 : decode cL_law 287 = .ok (.lcmp, 1) := by decide +kernel
theorem dL_law_288 : decode cL_law 288 = .ok (.ifCond .eq 5, 3) := by decide +kernel
theorem dL_law_291 : decode cL_law 291 = .ok (.iconst 0, 1) := by decide +kernel
theorem dL_law_292 : decode cL_law 292 = .ok (.ireturn, 1) := by decide +kernel
theorem dL_law_293 : decode cL_law 293 = .ok (.goto 1372, 3) := by decide +kernel
theorem dL_law_296 : decode cL_law 296 = .ok (.aload_n 1, 1) := by decide +kernel
theorem dL_law_297 : decode cL_law 297 = .ok (.aload_n 0, 1) := by decide +kernel
theorem dL_law_298 : decode cL_law 298 = .ok (.iload 4, 2) := by decide +kernel
theorem dL_law_300 : decode cL_law 300 = .ok (.iconst 1, 1) := by decide +kernel
theorem dL_law_301 : decode cL_law 301 = .ok (.iadd, 1) := by decide +kernel
theorem dL_law_302 : decode cL_law 302 = .ok (.iaload, 1) := by decide +kernel
theorem dL_law_303 : decode cL_law 303 = .ok (.aload_n 3, 1) := by decide +kernel
theorem dL_law_304 : decode cL_law 304 = .ok (.invokestatic 113, 3) := by decide +kernel
theorem dL_law_307 : decode cL_law 307 = .ok (.istore 5, 2) := by decide +kernel
theorem dL_law_309 : decode cL_law 309 = .ok (.aload_n 2, 1) := by decide +kernel
theorem dL_law_310 : decode cL_law 310 = .ok (.aload_n 0, 1) := by decide +kernel
theorem dL_law_311 : decode cL_law 311 = .ok (.iload 4, 2) := by decide +kernel
theorem dL_law_313 : decode cL_law 313 = .ok (.iconst 1, 1) := by decide +kernel
theorem dL_law_314 : decode cL_law 314 = .ok (.iadd, 1) := by decide +kernel
theorem dL_law_315 : decode cL_law 315 = .ok (.iaload, 1) := by decide +kernel
theorem dL_law_316 : decode cL_law 316 = .ok (.invokevirtual 116, 3) := by decide +kernel
theorem dL_law_319 : decode cL_law 319 = .ok (.istore 6, 2) := by decide +kernel
theorem dL_law_321 : decode cL_law 321 = .ok (.aload_n 2, 1) := by decide +kernel
theorem dL_law_322 : decode cL_law 322 = .ok (.invokevirtual 106, 3) := by decide +kernel
theorem dL_law_325 : decode cL_law 325 = .ok (.iload 5, 2) := by decide +kernel
theorem dL_law_327 : decode cL_law 327 = .ok (.if_icmp .eq 5, 3) := by decide +kernel
theorem dL_law_330 : decode cL_law 330 = .ok (.iconst 0, 1) := by decide +kernel
theorem dL_law_331 : decode cL_law 331 = .ok (.ireturn, 1) := by decide +kernel
theorem dL_law_332 : decode cL_law 332 = .ok (.iload 5, 2) := by decide +kernel
theorem dL_law_334 : decode cL_law 334 = .ok (.ifCond .ne 15, 3) := by decide +kernel
theorem dL_law_337 : decode cL_law 337 = .ok (.aload_n 3, 1) := by decide +kernel
theorem dL_law_338 : decode cL_law 338 = .ok (.iconst 0, 1) := by decide +kernel
theorem dL_law_339 : decode cL_law 339 = .ok (.laload, 1) := by decide +kernel
theorem dL_law_340 : decode cL_law 340 = .ok (.iload 6, 2) := by decide +kernel
theorem dL_law_342 : decode cL_law 342 = .ok (.i2l, 1) := by decide +kernel
theorem dL_law_343 : decode cL_law 343 = .ok (.lcmp, 1) := by decide +kernel
theorem dL_law_344 : decode cL_law 344 = .ok (.ifCond .eq 5, 3) := by decide +kernel
theorem dL_law_347 : decode cL_law 347 = .ok (.iconst 0, 1) := by decide +kernel
theorem dL_law_348 : decode cL_law 348 = .ok (.ireturn, 1) := by decide +kernel
theorem dL_law_349 : decode cL_law 349 = .ok (.goto 1316, 3) := by decide +kernel
theorem dL_law_352 : decode cL_law 352 = .ok (.aload_n 1, 1) := by decide +kernel
theorem dL_law_353 : decode cL_law 353 = .ok (.aload_n 0, 1) := by decide +kernel
theorem dL_law_354 : decode cL_law 354 = .ok (.iload 4, 2) := by decide +kernel
theorem dL_law_356 : decode cL_law 356 = .ok (.iconst 1, 1) := by decide +kernel
theorem dL_law_357 : decode cL_law 357 = .ok (.iadd, 1) := by decide +kernel
theorem dL_law_358 : decode cL_law 358 = .ok (.iaload, 1) := by decide +kernel
theorem dL_law_359 : decode cL_law 359 = .ok (.aload_n 0, 1) := by decide +kernel
theorem dL_law_360 : decode cL_law 360 = .ok (.iload 4, 2) := by decide +kernel
theorem dL_law_362 : decode cL_law 362 = .ok (.iconst 2, 1) := by decide +kernel
theorem dL_law_363 : decode cL_law 363 = .ok (.iadd, 1) := by decide +kernel
theorem dL_law_364 : decode cL_law 364 = .ok (.iaload, 1) := by decide +kernel
theorem dL_law_365 : decode cL_law 365 = .ok (.aload_n 0, 1) := by decide +kernel
theorem dL_law_366 : decode cL_law 366 = .ok (.iload 4, 2) := by decide +kernel
theorem dL_law_368 : decode cL_law 368 = .ok (.iconst 3, 1) := by decide +kernel
theorem dL_law_369 : decode cL_law 369 = .ok (.iadd, 1) := by decide +kernel
theorem dL_law_370 : decode cL_law 370 = .ok (.iaload, 1) := by decide +kernel
theorem dL_law_371 : decode cL_law 371 = .ok (.aload_n 3, 1) := by decide +kernel
theorem dL_law_372 : decode cL_law 372 = .ok (.invokestatic 117, 3) := by decide +kernel
theorem dL_law_375 : decode cL_law 375 = .ok (.istore 5, 2) := by decide +kernel
theorem dL_law_377 : decode cL_law 377 = .ok (.aload_n 2, 1) := by decide +kernel
theorem dL_law_378 : decode cL_law 378 = .ok (.aload_n 0, 1) := by decide +kernel
theorem dL_law_379 : decode cL_law 379 = .ok (.iload 4, 2) := by decide +kernel
theorem dL_law_381 : decode cL_law 381 = .ok (.iconst 1, 1) := by decide +kernel
theorem dL_law_382 : decode cL_law 382 = .ok (.iadd, 1) := by decide +kernel
theorem dL_law_383 : decode cL_law 383 = .ok (.iaload, 1) := by decide +kernel
theorem dL_law_384 : decode cL_law 384 = .ok (.aload_n 0, 1) := by decide +kernel
theorem dL_law_385 : decode cL_law 385 = .ok (.iload 4, 2) := by decide +kernel
theorem dL_law_387 : decode cL_law 387 = .ok (.iconst 2, 1) := by decide +kernel
theorem dL_law_388 : decode cL_law 388 = .ok (.iadd, 1) := by decide +kernel
theorem dL_law_389 : decode cL_law 389 = .ok (.iaload, 1) := by decide +kernel
theorem dL_law_390 : decode cL_law 390 = .ok (.aload_n 0, 1) := by decide +kernel
theorem dL_law_391 : decode cL_law 391 = .ok (.iload 4, 2) := by decide +kernel
theorem dL_law_393 : decode cL_law 393 = .ok (.iconst 3, 1) := by decide +kernel
theorem dL_law_394 : decode cL_law 394 = .ok (.iadd, 1) := by decide +kernel
theorem dL_law_395 : decode cL_law 395 = .ok (.iaload, 1) := by decide +kernel
theorem dL_law_396 : decode cL_law 396 = .ok (.invokevirtual 119, 3) := by decide +kernel
theorem dL_law_399 : decode cL_law 399 = .ok (.istore 6, 2) := by decide +kernel
theorem dL_law_401 : decode cL_law 401 = .ok (.aload_n 2, 1) := by decide +kernel
theorem dL_law_402 : decode cL_law 402 = .ok (.invokevirtual 106, 3) := by decide +kernel
theorem dL_law_405 : decode cL_law 405 = .ok (.iload 5, 2) := by decide +kernel
theorem dL_law_407 : decode cL_law 407 = .ok (.if_icmp .eq 5, 3) := by decide +kernel
theorem dL_law_410 : decode cL_law 410 = .ok (.iconst 0, 1) := by decide +kernel
theorem dL_law_411 : decode cL_law 411 = .ok (.ireturn, 1) := by decide +kernel
theorem dL_law_412 : decode cL_law 412 = .ok (.iload 5, 2) := by decide +kernel
theorem dL_law_414 : decode cL_law 414 = .ok (.ifCond .ne 15, 3) := by decide +kernel
theorem dL_law_417 : decode cL_law 417 = .ok (.aload_n 3, 1) := by decide +kernel
theorem dL_law_418 : decode cL_law 418 = .ok (.iconst 0, 1) := by decide +kernel
theorem dL_law_419 : decode cL_law 419 = .ok (.laload, 1) := by decide +kernel
theorem dL_law_420 : decode cL_law 420 = .ok (.iload 6, 2) := by decide +kernel
theorem dL_law_422 : decode cL_law 422 = .ok (.i2l, 1) := by decide +kernel
theorem dL_law_423 : decode cL_law 423 = .ok (.lcmp, 1) := by decide +kernel
theorem dL_law_424 : decode cL_law 424 = .ok (.ifCond .eq 5, 3) := by decide +kernel
theorem dL_law_427 : decode cL_law 427 = .ok (.iconst 0, 1) := by decide +kernel
theorem dL_law_428 : decode cL_law 428 = .ok (.ireturn, 1) := by decide +kernel
theorem dL_law_429 : decode cL_law 429 = .ok (.goto 1236, 3) := by decide +kernel
theorem dL_law_432 : decode cL_law 432 = .ok (.aload_n 1, 1) := by decide +kernel
theorem dL_law_433 : decode cL_law 433 = .ok (.aload_n 0, 1) := by decide +kernel
theorem dL_law_434 : decode cL_law 434 = .ok (.iload 4, 2) := by decide +kernel
theorem dL_law_436 : decode cL_law 436 = .ok (.iconst 1, 1) := by decide +kernel
theorem dL_law_437 : decode cL_law 437 = .ok (.iadd, 1) := by decide +kernel
theorem dL_law_438 : decode cL_law 438 = .ok (.iaload, 1) := by decide +kernel
theorem dL_law_439 : decode cL_law 439 = .ok (.aload_n 0, 1) := by decide +kernel
theorem dL_law_440 : decode cL_law 440 = .ok (.iload 4, 2) := by decide +kernel
theorem dL_law_442 : decode cL_law 442 = .ok (.iconst 2, 1) := by decide +kernel
theorem dL_law_443 : decode cL_law 443 = .ok (.iadd, 1) := by decide +kernel
theorem dL_law_444 : decode cL_law 444 = .ok (.iaload, 1) := by decide +kernel
