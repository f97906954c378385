theorem dX6_take_1 : decode cX6_take 1 = .ok (.iload_n 1, 1) := by decide +kernel
theorem dX6_take_2 : decode cX6_take 2 = .ok (.iconst 0, 1) := by decide +kernel
theorem dX6_take_3 : decode cX6_take 3 = .ok (.invokevirtual 61, 3) := by decide +kernel
theorem dX6_take_6 : decode cX6_take 6 = .ok (.ifCond .eq 14, 3) := by decide +kernel
theorem dX6_take_9 : decode cX6_take 9 = .ok (.aload_n 0, 1) := by decide +kernel
theorem dX6_take_10 : decode cX6_take 10 = .ok (.iload_n 1, 1) := by decide +kernel
theorem dX6_take_11 : decode cX6_take 11 = .ok (.iload_n 2, 1) := by decide +kernel
theorem dX6_take_12 : decode cX6_take 12 = .ok (.bipush 7, 2) := by decide +kernel
theorem dX6_take_14 : decode cX6_take 14 = .ok (.invokevirtual 91, 3) := by decide +kernel
theorem dX6_take_17 : decode cX6_take 17 = .ok (.ifCond .ne 5, 3) := by decide +kernel
theorem dX6_take_20 : decode cX6_take 20 = .ok (.lconst 0, 1) := by decide +kernel
theorem dX6_take_21 : decode cX6_take 21 = .ok (.lreturn, 1) := by decide +kernel
theorem dX6_take_22 : decode cX6_take 22 = .ok (.aload_n 0, 1) := by decide +kernel
theorem dX6_take_23 : decode cX6_take 23 = .ok (.invokevirtual 80, 3) := by decide +kernel
theorem dX6_take_26 : decode cX6_take 26 = .ok (.lreturn, 1) := by decide +kernel
theorem dX6_put_0 : decode cX6_put 0 = .ok (.aload_n 0, 1) := by decide +kernel
theorem dX6_put_1 : decode cX6_put 1 = .ok (.iload_n 1, 1) := by decide +kernel
theorem dX6_put_2 : decode cX6_put 2 = .ok (.iconst 0, 1) := by decide +kernel
theorem dX6_put_3 : decode cX6_put 3 = .ok (.invokevirtual 61, 3) := by decide +kernel
theorem dX6_put_6 : decode cX6_put 6 = .ok (.ifCond .eq 14, 3) := by decide +kernel
theorem dX6_put_9 : decode cX6_put 9 = .ok (.aload_n 0, 1) := by decide +kernel
theorem dX6_put_10 : decode cX6_put 10 = .ok (.iload_n 1, 1) := by decide +kernel
theorem dX6_put_11 : decode cX6_put 11 = .ok (.iload_n 2, 1) := by decide +kernel
theorem dX6_put_12 : decode cX6_put 12 = .ok (.bipush 7, 2) := by decide +kernel
theorem dX6_put_14 : decode cX6_put 14 = .ok (.invokevirtual 91, 3) := by decide +kernel
theorem dX6_put_17 : decode cX6_put 17 = .ok (.ifCond .ne 5, 3) := by decide +kernel
theorem dX6_put_20 : decode cX6_put 20 = .ok (.lconst 0, 1) := by decide +kernel
theorem dX6_put_21 : decode cX6_put 21 = .ok (.lreturn, 1) := by decide +kernel
theorem dX6_put_22 : decode cX6_put 22 = .ok (.aload_n 0, 1) := by decide +kernel
theorem dX6_put_23 : decode cX6_put 23 = .ok (.lload_n 3, 1) := by decide +kernel
theorem dX6_put_24 : decode cX6_put 24 = .ok (.invokevirtual 94, 3) := by decide +kernel
theorem dX6_put_27 : decode cX6_put 27 = .ok (.lreturn, 1) := by decide +kernel
theorem dX6_row_0 : decode cX6_row 0 = .ok (.aload_n 0, 1) := by decide +kernel
theorem dX6_row_1 : decode cX6_row 1 = .ok (.getfield 7, 3) := by decide +kernel
theorem dX6_row_4 : decode cX6_row 4 = .ok (.iload_n 1, 1) := by decide +kernel
theorem dX6_row_5 : decode cX6_row 5 = .ok (.iaload, 1) := by decide +kernel
theorem dX6_row_6 : decode cX6_row 6 = .ok (.istore_n 3, 1) := by decide +kernel
theorem dX6_row_7 : decode cX6_row 7 = .ok (.aload_n 0, 1) := by decide +kernel
theorem dX6_row_8 : decode cX6_row 8 = .ok (.iload_n 3, 1) := by decide +kernel
theorem dX6_row_9 : decode cX6_row 9 = .ok (.ifCond .lt 14, 3) := by decide +kernel
theorem dX6_row_12 : decode cX6_row 12 = .ok (.aload_n 0, 1) := by decide +kernel
theorem dX6_row_13 : decode cX6_row 13 = .ok (.getfield 13, 3) := by decide +kernel
theorem dX6_row_16 : decode cX6_row 16 = .ok (.iload_n 3, 1) := by decide +kernel
theorem dX6_row_17 : decode cX6_row 17 = .ok (.iaload, 1) := by decide +kernel
theorem dX6_row_18 : decode cX6_row 18 = .ok (.bipush 9, 2) := by decide +kernel
theorem dX6_row_20 : decode cX6_row 20 = .ok (.if_icmp .ne 7, 3) := by decide +kernel
theorem dX6_row_23 : decode cX6_row 23 = .ok (.iconst 1, 1) := by decide +kernel
theorem dX6_row_24 : decode cX6_row 24 = .ok (.goto 4, 3) := by decide +kernel
theorem dX6_row_27 : decode cX6_row 27 = .ok (.iconst 0, 1) := by decide +kernel
theorem dX6_row_28 : decode cX6_row 28 = .ok (.iconst 2, 1) := by decide +kernel
theorem dX6_row_29 : decode cX6_row 29 = .ok (.invokevirtual 44, 3) := by decide +kernel
theorem dX6_row_32 : decode cX6_row 32 = .ok (.ifCond .eq 45, 3) := by decide +kernel
theorem dX6_row_35 : decode cX6_row 35 = .ok (.aload_n 0, 1) := by decide +kernel
theorem dX6_row_36 : decode cX6_row 36 = .ok (.iload_n 3, 1) := by decide +kernel
theorem dX6_row_37 : decode cX6_row 37 = .ok (.ifCond .lt 7, 3) := by decide +kernel
theorem dX6_row_40 : decode cX6_row 40 = .ok (.iconst 1, 1) := by decide +kernel
theorem dX6_row_41 : decode cX6_row 41 = .ok (.goto 4, 3) := by decide +kernel
theorem dX6_row_44 : decode cX6_row 44 = .ok (.iconst 0, 1) := by decide +kernel
theorem dX6_row_45 : decode cX6_row 45 = .ok (.iconst 3, 1) := by decide +kernel
theorem dX6_row_46 : decode cX6_row 46 = .ok (.invokevirtual 44, 3) := by decide +kernel
theorem dX6_row_49 : decode cX6_row 49 = .ok (.ifCond .eq 28, 3) := by decide +kernel
theorem dX6_row_52 : decode cX6_row 52 = .ok (.aload_n 0, 1) := by decide +kernel
theorem dX6_row_53 : decode cX6_row 53 = .ok (.iload_n 2, 1) := by decide +kernel
theorem dX6_row_54 : decode cX6_row 54 = .ok (.iconst 0, 1) := by decide +kernel
theorem dX6_row_55 : decode cX6_row 55 = .ok (.aload_n 0, 1) := by decide +kernel
theorem dX6_row_56 : decode cX6_row 56 = .ok (.getfield 16, 3) := by decide +kernel
theorem dX6_row_59 : decode cX6_row 59 = .ok (.iload_n 3, 1) := by decide +kernel
theorem dX6_row_60 : decode cX6_row 60 = .ok (.iaload, 1) := by decide +kernel
theorem dX6_row_61 : decode cX6_row 61 = .ok (.iconst 1, 1) := by decide +kernel
theorem dX6_row_62 : decode cX6_row 62 = .ok (.isub, 1) := by decide +kernel
theorem dX6_row_63 : decode cX6_row 63 = .ok (.invokestatic 40, 3) := by decide +kernel
theorem dX6_row_66 : decode cX6_row 66 = .ok (.iconst 4, 1) := by decide +kernel
theorem dX6_row_67 : decode cX6_row 67 = .ok (.invokevirtual 44, 3) := by decide +kernel
theorem dX6_row_70 : decode cX6_row 70 = .ok (.ifCond .eq 7, 3) := by decide +kernel
theorem dX6_row_73 : decode cX6_row 73 = .ok (.iconst 1, 1) := by decide +kernel
theorem dX6_row_74 : decode cX6_row 74 = .ok (.goto 4, 3) := by decide +kernel
theorem dX6_row_77 : decode cX6_row 77 = .ok (.iconst 0, 1) := by decide +kernel
theorem dX6_row_78 : decode cX6_row 78 = .ok (.ireturn, 1) := by decide +kernel
theorem dX6_column_0 : decode cX6_column 0 = .ok (.aload_n 0, 1) := by decide +kernel
theorem dX6_column_1 : decode cX6_column 1 = .ok (.getfield 7, 3) := by decide +kernel
theorem dX6_column_4 : decode cX6_column 4 = .ok (.iload_n 1, 1) := by decide +kernel
theorem dX6_column_5 : decode cX6_column 5 = .ok (.iaload, 1) := by decide +kernel
theorem dX6_column_6 : decode cX6_column 6 = .ok (.istore 4, 2) := by decide +kernel
theorem dX6_column_8 : decode cX6_column 8 = .ok (.aload_n 0, 1) := by decide +kernel
theorem dX6_column_9 : decode cX6_column 9 = .ok (.iload 4, 2) := by decide +kernel
theorem dX6_column_11 : decode cX6_column 11 = .ok (.putfield 71, 3) := by decide +kernel
theorem dX6_column_14 : decode cX6_column 14 = .ok (.aload_n 0, 1) := by decide +kernel
theorem dX6_column_15 : decode cX6_column 15 = .ok (.aload_n 0, 1) := by decide +kernel
theorem dX6_column_16 : decode cX6_column 16 = .ok (.getfield 19, 3) := by decide +kernel
theorem dX6_column_19 : decode cX6_column 19 = .ok (.iload 4, 2) := by decide +kernel
theorem dX6_column_21 : decode cX6_column 21 = .ok (.iaload, 1) := by decide +kernel
theorem dX6_column_22 : decode cX6_column 22 = .ok (.iload_n 2, 1) := by decide +kernel
theorem dX6_column_23 : decode cX6_column 23 = .ok (.imul, 1) := by decide +kernel
theorem dX6_column_24 : decode cX6_column 24 = .ok (.iload_n 3, 1) := by decide +kernel
theorem dX6_column_25 : decode cX6_column 25 = .ok (.iadd, 1) := by decide +kernel
theorem dX6_column_26 : decode cX6_column 26 = .ok (.putfield 68, 3) := by decide +kernel
theorem dX6_column_29 : decode cX6_column 29 = .ok (.aload_n 0, 1) := by decide +kernel
theorem dX6_column_30 : decode cX6_column 30 = .ok (.aload_n 0, 1) := by decide +kernel
theorem dX6_column_31 : decode cX6_column 31 = .ok (.getfield 32, 3) := by decide +kernel
theorem dX6_column_34 : decode cX6_column 34 = .ok (.bipush 6, 2) := by decide +kernel
theorem dX6_column_36 : decode cX6_column 36 = .ok (.iload 4, 2) := by decide +kernel
theorem dX6_column_38 : decode cX6_column 38 = .ok (.imul, 1) := by decide +kernel
theorem dX6_column_39 : decode cX6_column 39 = .ok (.iload_n 2, 1) := by decide +kernel
theorem dX6_column_40 : decode cX6_column 40 = .ok (.iadd, 1) := by decide +kernel
theorem dX6_column_41 : decode cX6_column 41 = .ok (.baload, 1) := by decide +kernel
theorem dX6_column_42 : decode cX6_column 42 = .ok (.ifCond .ne 7, 3) := by decide +kernel
theorem dX6_column_45 : decode cX6_column 45 = .ok (.iconst 1, 1) := by decide +kernel
theorem dX6_column_46 : decode cX6_column 46 = .ok (.goto 4, 3) := by decide +kernel
theorem dX6_column_49 : decode cX6_column 49 = .ok (.iconst 0, 1) := by decide +kernel
theorem dX6_column_50 : decode cX6_column 50 = .ok (.iconst 3, 1) := by decide +kernel
theorem dX6_column_51 : decode cX6_column 51 = .ok (.invokevirtual 44, 3) := by decide +kernel
theorem dX6_column_54 : decode cX6_column 54 = .ok (.ifCond .eq 29, 3) := by decide +kernel
theorem dX6_column_57 : decode cX6_column 57 = .ok (.aload_n 0, 1) := by decide +kernel
theorem dX6_column_58 : decode cX6_column 58 = .ok (.iload_n 3, 1) := by decide +kernel
theorem dX6_column_59 : decode cX6_column 59 = .ok (.iconst 0, 1) := by decide +kernel
theorem dX6_column_60 : decode cX6_column 60 = .ok (.aload_n 0, 1) := by decide +kernel
theorem dX6_column_61 : decode cX6_column 61 = .ok (.getfield 19, 3) := by decide +kernel
theorem dX6_column_64 : decode cX6_column 64 = .ok (.iload 4, 2) := by decide +kernel
theorem dX6_column_66 : decode cX6_column 66 = .ok (.iaload, 1) := by decide +kernel
theorem dX6_column_67 : decode cX6_column 67 = .ok (.iconst 1, 1) := by decide +kernel
theorem dX6_column_68 : decode cX6_column 68 = .ok (.isub, 1) := by decide +kernel
theorem dX6_column_69 : decode cX6_column 69 = .ok (.invokestatic 40, 3) := by decide +kernel
theorem dX6_column_72 : decode cX6_column 72 = .ok (.iconst 4, 1) := by decide +kernel
theorem dX6_column_73 : decode cX6_column 73 = .ok (.invokevirtual 44, 3) := by decide +kernel
theorem dX6_column_76 : decode cX6_column 76 = .ok (.ifCond .eq 7, 3) := by decide +kernel
theorem dX6_column_79 : decode cX6_column 79 = .ok (.iconst 1, 1) := by decide +kernel
theorem dX6_column_80 : decode cX6_column 80 = .ok (.goto 4, 3) := by decide +kernel
theorem dX6_column_83 : decode cX6_column 83 = .ok (.iconst 0, 1) := by decide +kernel
theorem dX6_column_84 : decode cX6_column 84 = .ok (.ireturn, 1) := by decide +kernel
theorem dX6_cell_0 : decode cX6_cell 0 = .ok (.aload_n 0, 1) := by decide +kernel
theorem dX6_cell_1 : decode cX6_cell 1 = .ok (.iload_n 1, 1) := by decide +kernel
theorem dX6_cell_2 : decode cX6_cell 2 = .ok (.iconst 0, 1) := by decide +kernel
theorem dX6_cell_3 : decode cX6_cell 3 = .ok (.invokevirtual 61, 3) := by decide +kernel
theorem dX6_cell_6 : decode cX6_cell 6 = .ok (.ifCond .eq 22, 3) := by decide +kernel
theorem dX6_cell_9 : decode cX6_cell 9 = .ok (.aload_n 0, 1) := by decide +kernel
theorem dX6_cell_10 : decode cX6_cell 10 = .ok (.iload_n 1, 1) := by decide +kernel
theorem dX6_cell_11 : decode cX6_cell 11 = .ok (.iload_n 2, 1) := by decide +kernel
theorem dX6_cell_12 : decode cX6_cell 12 = .ok (.invokevirtual 98, 3) := by decide +kernel
theorem dX6_cell_15 : decode cX6_cell 15 = .ok (.ifCond .eq 13, 3) := by decide +kernel
theorem dX6_cell_18 : decode cX6_cell 18 = .ok (.aload_n 0, 1) := by decide +kernel
theorem dX6_cell_19 : decode cX6_cell 19 = .ok (.iload_n 1, 1) := by decide +kernel
theorem dX6_cell_20 : decode cX6_cell 20 = .ok (.iload_n 2, 1) := by decide +kernel
theorem dX6_cell_21 : decode cX6_cell 21 = .ok (.iload_n 3, 1) := by decide +kernel
theorem dX6_cell_22 : decode cX6_cell 22 = .ok (.invokevirtual 101, 3) := by decide +kernel
theorem dX6_cell_25 : decode cX6_cell 25 = .ok (.ifCond .ne 5, 3) := by decide +kernel
theorem dX6_cell_28 : decode cX6_cell 28 = .ok (.iconst 0, 1) := by decide +kernel
theorem dX6_cell_29 : decode cX6_cell 29 = .ok (.ireturn, 1) := by decide +kernel
theorem dX6_cell_30 : decode cX6_cell 30 = .ok (.aload_n 0, 1) := by decide +kernel
theorem dX6_cell_31 : decode cX6_cell 31 = .ok (.invokevirtual 80, 3) := by decide +kernel
theorem dX6_cell_34 : decode cX6_cell 34 = .ok (.l2i, 1) := by decide +kernel
theorem dX6_cell_35 : decode cX6_cell 35 = .ok (.ireturn, 1) := by decide +kernel
theorem dX6_setCell_0 : decode cX6_setCell 0 = .ok (.aload_n 0, 1) := by decide +kernel
theorem dX6_setCell_1 : decode cX6_setCell 1 = .ok (.iload_n 1, 1) := by decide +kernel
theorem dX6_setCell_2 : decode cX6_setCell 2 = .ok (.iconst 0, 1) := by decide +kernel
theorem dX6_setCell_3 : decode cX6_setCell 3 = .ok (.invokevirtual 61, 3) := by decide +kernel
theorem dX6_setCell_6 : decode cX6_setCell 6 = .ok (.ifCond .eq 40, 3) := by decide +kernel
theorem dX6_setCell_9 : decode cX6_setCell 9 = .ok (.aload_n 0, 1) := by decide +kernel
theorem dX6_setCell_10 : decode cX6_setCell 10 = .ok (.iload_n 1, 1) := by decide +kernel
theorem dX6_setCell_11 : decode cX6_setCell 11 = .ok (.iload_n 2, 1) := by decide +kernel
theorem dX6_setCell_12 : decode cX6_setCell 12 = .ok (.invokevirtual 98, 3) := by decide +kernel
theorem dX6_setCell_15 : decode cX6_setCell 15 = .ok (.ifCond .eq 31, 3) := by decide +kernel
theorem dX6_setCell_18 : decode cX6_setCell 18 = .ok (.aload_n 0, 1) := by decide +kernel
theorem dX6_setCell_19 : decode cX6_setCell 19 = .ok (.iload 5, 2) := by decide +kernel
theorem dX6_setCell_21 : decode cX6_setCell 21 = .ok (.ifCond .eq 7, 3) := by decide +kernel
theorem dX6_setCell_24 : decode cX6_setCell 24 = .ok (.iconst 1, 1) := by decide +kernel
theorem dX6_setCell_25 : decode cX6_setCell 25 = .ok (.goto 4, 3) := by decide +kernel
theorem dX6_setCell_28 : decode cX6_setCell 28 = .ok (.iconst 0, 1) := by decide +kernel
theorem dX6_setCell_29 : decode cX6_setCell 29 = .ok (.iconst 5, 1) := by decide +kernel
theorem dX6_setCell_30 : decode cX6_setCell 30 = .ok (.invokevirtual 44, 3) := by decide +kernel
theorem dX6_setCell_33 : decode cX6_setCell 33 = .ok (.ifCond .eq 13, 3) := by decide +kernel
theorem dX6_setCell_36 : decode cX6_setCell 36 = .ok (.aload_n 0, 1) := by decide +kernel
theorem dX6_setCell_37 : decode cX6_setCell 37 = .ok (.iload_n 1, 1) := by decide +kernel
theorem dX6_setCell_38 : decode cX6_setCell 38 = .ok (.iload_n 2, 1) := by decide +kernel
theorem dX6_setCell_39 : decode cX6_setCell 39 = .ok (.iload_n 3, 1) := by decide +kernel
theorem dX6_setCell_40 : decode cX6_setCell 40 = .ok (.invokevirtual 101, 3) := by decide +kernel
theorem dX6_setCell_43 : decode cX6_setCell 43 = .ok (.ifCond .ne 4, 3) := by decide +kernel
theorem dX6_setCell_46 : decode cX6_setCell 46 = .ok (.return_, 1) := by decide +kernel
theorem dX6_setCell_47 : decode cX6_setCell 47 = .ok (.aload_n 0, 1) := by decide +kernel
theorem dX6_setCell_48 : decode cX6_setCell 48 = .ok (.getfield 28, 3) := by decide +kernel
theorem dX6_setCell_51 : decode cX6_setCell 51 = .ok (.bipush 24, 2) := by decide +kernel
theorem dX6_setCell_53 : decode cX6_setCell 53 = .ok (.aload_n 0, 1) := by decide +kernel
theorem dX6_setCell_54 : decode cX6_setCell 54 = .ok (.getfield 71, 3) := by decide +kernel
theorem dX6_setCell_57 : decode cX6_setCell 57 = .ok (.imul, 1) := by decide +kernel
theorem dX6_setCell_58 : decode cX6_setCell 58 = .ok (.aload_n 0, 1) := by decide +kernel
theorem dX6_setCell_59 : decode cX6_setCell 59 = .ok (.getfield 68, 3) := by decide +kernel
theorem dX6_setCell_62 : decode cX6_setCell 62 = .ok (.iadd, 1) := by decide +kernel
theorem dX6_setCell_63 : decode cX6_setCell 63 = .ok (.iload 5, 2) := by decide +kernel
theorem dX6_setCell_65 : decode cX6_setCell 65 = .ok (.iconst (-1), 1) := by decide +kernel
theorem dX6_setCell_66 : decode cX6_setCell 66 = .ok (.if_icmp .ne 11, 3) := by decide +kernel
theorem dX6_setCell_69 : decode cX6_setCell 69 = .ok (.iconst 0, 1) := by decide +kernel
theorem dX6_setCell_70 : decode cX6_setCell 70 = .ok (.iload 4, 2) := by decide +kernel
theorem dX6_setCell_72 : decode cX6_setCell 72 = .ok (.isub, 1) := by decide +kernel
theorem dX6_setCell_73 : decode cX6_setCell 73 = .ok (.i2l, 1) := by decide +kernel
theorem dX6_setCell_74 : decode cX6_setCell 74 = .ok (.goto 9, 3) := by decide +kernel
theorem dX6_setCell_77 : decode cX6_setCell 77 = .ok (.iload 4, 2) := by decide +kernel
theorem dX6_setCell_79 : decode cX6_setCell 79 = .ok (.iload 5, 2) := by decide +kernel
theorem dX6_setCell_81 : decode cX6_setCell 81 = .ok (.idiv, 1) := by decide +kernel
theorem dX6_setCell_82 : decode cX6_setCell 82 = .ok (.i2l, 1) := by decide +kernel
theorem dX6_setCell_83 : decode cX6_setCell 83 = .ok (.lastore, 1) := by decide +kernel
theorem dX6_setCell_84 : decode cX6_setCell 84 = .ok (.return_, 1) := by decide +kernel
theorem dX6_reachItem_0 : decode cX6_reachItem 0 = .ok (.aload_n 0, 1) := by decide +kernel
theorem dX6_reachItem_1 : decode cX6_reachItem 1 = .ok (.getfield 7, 3) := by decide +kernel
theorem dX6_reachItem_4 : decode cX6_reachItem 4 = .ok (.iload_n 1, 1) := by decide +kernel
theorem dX6_reachItem_5 : decode cX6_reachItem 5 = .ok (.iaload, 1) := by decide +kernel
theorem dX6_reachItem_6 : decode cX6_reachItem 6 = .ok (.istore_n 3, 1) := by decide +kernel
theorem dX6_reachItem_7 : decode cX6_reachItem 7 = .ok (.aload_n 0, 1) := by decide +kernel
theorem dX6_reachItem_8 : decode cX6_reachItem 8 = .ok (.iload_n 3, 1) := by decide +kernel
theorem dX6_reachItem_9 : decode cX6_reachItem 9 = .ok (.ifCond .lt 7, 3) := by decide +kernel
theorem dX6_reachItem_12 : decode cX6_reachItem 12 = .ok (.iconst 1, 1) := by decide +kernel
theorem dX6_reachItem_13 : decode cX6_reachItem 13 = .ok (.goto 4, 3) := by decide +kernel
theorem dX6_reachItem_16 : decode cX6_reachItem 16 = .ok (.iconst 0, 1) := by decide +kernel
theorem dX6_reachItem_17 : decode cX6_reachItem 17 = .ok (.iconst 2, 1) := by decide +kernel
theorem dX6_reachItem_18 : decode cX6_reachItem 18 = .ok (.invokevirtual 44, 3) := by decide +kernel
theorem dX6_reachItem_21 : decode cX6_reachItem 21 = .ok (.ifCond .eq 26, 3) := by decide +kernel
theorem dX6_reachItem_24 : decode cX6_reachItem 24 = .ok (.aload_n 0, 1) := by decide +kernel
theorem dX6_reachItem_25 : decode cX6_reachItem 25 = .ok (.aload_n 0, 1) := by decide +kernel
theorem dX6_reachItem_26 : decode cX6_reachItem 26 = .ok (.iload_n 3, 1) := by decide +kernel
theorem dX6_reachItem_27 : decode cX6_reachItem 27 = .ok (.invokevirtual 84, 3) := by decide +kernel
theorem dX6_reachItem_30 : decode cX6_reachItem 30 = .ok (.bipush 8, 2) := by decide +kernel
theorem dX6_reachItem_32 : decode cX6_reachItem 32 = .ok (.if_icmp .ne 7, 3) := by decide +kernel
theorem dX6_reachItem_35 : decode cX6_reachItem 35 = .ok (.iconst 1, 1) := by decide +kernel
theorem dX6_reachItem_36 : decode cX6_reachItem 36 = .ok (.goto 4, 3) := by decide +kernel
theorem dX6_reachItem_39 : decode cX6_reachItem 39 = .ok (.iconst 0, 1) := by decide +kernel
theorem dX6_reachItem_40 : decode cX6_reachItem 40 = .ok (.iconst 3, 1) := by decide +kernel
theorem dX6_reachItem_41 : decode cX6_reachItem 41 = .ok (.invokevirtual 44, 3) := by decide +kernel
theorem dX6_reachItem_44 : decode cX6_reachItem 44 = .ok (.ifCond .ne 5, 3) := by decide +kernel
theorem dX6_reachItem_47 : decode cX6_reachItem 47 = .ok (.iconst 0, 1) := by decide +kernel
theorem dX6_reachItem_48 : decode cX6_reachItem 48 = .ok (.ireturn, 1) := by decide +kernel
theorem dX6_reachItem_49 : decode cX6_reachItem 49 = .ok (.aload_n 0, 1) := by decide +kernel
theorem dX6_reachItem_50 : decode cX6_reachItem 50 = .ok (.aload_n 0, 1) := by decide +kernel
theorem dX6_reachItem_51 : decode cX6_reachItem 51 = .ok (.iload_n 3, 1) := by decide +kernel
theorem dX6_reachItem_52 : decode cX6_reachItem 52 = .ok (.iload_n 2, 1) := by decide +kernel
theorem dX6_reachItem_53 : decode cX6_reachItem 53 = .ok (.invokevirtual 87, 3) := by decide +kernel
theorem dX6_reachItem_56 : decode cX6_reachItem 56 = .ok (.putfield 36, 3) := by decide +kernel
theorem dX6_reachItem_59 : decode cX6_reachItem 59 = .ok (.aload_n 0, 1) := by decide +kernel
theorem dX6_reachItem_60 : decode cX6_reachItem 60 = .ok (.getfield 36, 3) := by decide +kernel
theorem dX6_reachItem_63 : decode cX6_reachItem 63 = .ok (.ifCond .ne 7, 3) := by decide +kernel
theorem dX6_reachItem_66 : decode cX6_reachItem 66 = .ok (.iconst 1, 1) := by decide +kernel
theorem dX6_reachItem_67 : decode cX6_reachItem 67 = .ok (.goto 4, 3) := by decide +kernel
theorem dX6_reachItem_70 : decode cX6_reachItem 70 = .ok (.iconst 0, 1) := by decide +kernel
theorem dX6_reachItem_71 : decode cX6_reachItem 71 = .ok (.ireturn, 1) := by decide +kernel
theorem dX6_refer_0 : decode cX6_refer 0 = .ok (.aload_n 0, 1) := by decide +kernel
theorem dX6_refer_1 : decode cX6_refer 1 = .ok (.iload_n 1, 1) := by decide +kernel
theorem dX6_refer_2 : decode cX6_refer 2 = .ok (.iload_n 3, 1) := by decide +kernel
theorem dX6_refer_3 : decode cX6_refer 3 = .ok (.invokevirtual 61, 3) := by decide +kernel
theorem dX6_refer_6 : decode cX6_refer 6 = .ok (.ifCond .eq 12, 3) := by decide +kernel
theorem dX6_refer_9 : decode cX6_refer 9 = .ok (.aload_n 0, 1) := by decide +kernel
theorem dX6_refer_10 : decode cX6_refer 10 = .ok (.iload_n 1, 1) := by decide +kernel
theorem dX6_refer_11 : decode cX6_refer 11 = .ok (.iload_n 2, 1) := by decide +kernel
theorem dX6_refer_12 : decode cX6_refer 12 = .ok (.invokevirtual 104, 3) := by decide +kernel
theorem dX6_refer_15 : decode cX6_refer 15 = .ok (.ifCond .ne 4, 3) := by decide +kernel
theorem dX6_refer_18 : decode cX6_refer 18 = .ok (.return_, 1) := by decide +kernel
theorem dX6_refer_19 : decode cX6_refer 19 = .ok (.aload_n 0, 1) := by decide +kernel
theorem dX6_refer_20 : decode cX6_refer 20 = .ok (.getfield 28, 3) := by decide +kernel
theorem dX6_refer_23 : decode cX6_refer 23 = .ok (.bipush 24, 2) := by decide +kernel
theorem dX6_refer_25 : decode cX6_refer 25 = .ok (.aload_n 0, 1) := by decide +kernel
theorem dX6_refer_26 : decode cX6_refer 26 = .ok (.getfield 71, 3) := by decide +kernel
theorem dX6_refer_29 : decode cX6_refer 29 = .ok (.imul, 1) := by decide +kernel
theorem dX6_refer_30 : decode cX6_refer 30 = .ok (.aload_n 0, 1) := by decide +kernel
theorem dX6_refer_31 : decode cX6_refer 31 = .ok (.getfield 68, 3) := by decide +kernel
theorem dX6_refer_34 : decode cX6_refer 34 = .ok (.iadd, 1) := by decide +kernel
theorem dX6_refer_35 : decode cX6_refer 35 = .ok (.aload_n 0, 1) := by decide +kernel
theorem dX6_refer_36 : decode cX6_refer 36 = .ok (.getfield 7, 3) := by decide +kernel
theorem dX6_refer_39 : decode cX6_refer 39 = .ok (.iload_n 3, 1) := by decide +kernel
theorem dX6_refer_40 : decode cX6_refer 40 = .ok (.iaload, 1) := by decide +kernel
theorem dX6_refer_41 : decode cX6_refer 41 = .ok (.i2l, 1) := by decide +kernel
theorem dX6_refer_42 : decode cX6_refer 42 = .ok (.lastore, 1) := by decide +kernel
theorem dX6_refer_43 : decode cX6_refer 43 = .ok (.return_, 1) := by decide +kernel
theorem dX6_fetch_0 : decode cX6_fetch 0 = .ok (.aload_n 0, 1) := by decide +kernel
theorem dX6_fetch_1 : decode cX6_fetch 1 = .ok (.iload_n 1, 1) := by decide +kernel
theorem dX6_fetch_2 : decode cX6_fetch 2 = .ok (.iload_n 2, 1) := by decide +kernel
theorem dX6_fetch_3 : decode cX6_fetch 3 = .ok (.invokevirtual 61, 3) := by decide +kernel
theorem dX6_fetch_6 : decode cX6_fetch 6 = .ok (.ifCond .eq 12, 3) := by decide +kernel
theorem dX6_fetch_9 : decode cX6_fetch 9 = .ok (.aload_n 0, 1) := by decide +kernel
theorem dX6_fetch_10 : decode cX6_fetch 10 = .ok (.iload_n 2, 1) := by decide +kernel
theorem dX6_fetch_11 : decode cX6_fetch 11 = .ok (.iload_n 3, 1) := by decide +kernel
theorem dX6_fetch_12 : decode cX6_fetch 12 = .ok (.invokevirtual 104, 3) := by decide +kernel
theorem dX6_fetch_15 : decode cX6_fetch 15 = .ok (.ifCond .ne 5, 3) := by decide +kernel
theorem dX6_fetch_18 : decode cX6_fetch 18 = .ok (.iconst 0, 1) := by decide +kernel
theorem dX6_fetch_19 : decode cX6_fetch 19 = .ok (.ireturn, 1) := by decide +kernel
theorem dX6_fetch_20 : decode cX6_fetch 20 = .ok (.aload_n 0, 1) := by decide +kernel
theorem dX6_fetch_21 : decode cX6_fetch 21 = .ok (.invokevirtual 80, 3) := by decide +kernel
theorem dX6_fetch_24 : decode cX6_fetch 24 = .ok (.l2i, 1) := by decide +kernel
theorem dX6_fetch_25 : decode cX6_fetch 25 = .ok (.istore 4, 2) := by decide +kernel
theorem dX6_fetch_27 : decode cX6_fetch 27 = .ok (.aload_n 0, 1) := by decide +kernel
theorem dX6_fetch_28 : decode cX6_fetch 28 = .ok (.getfield 7, 3) := by decide +kernel
theorem dX6_fetch_31 : decode cX6_fetch 31 = .ok (.iload_n 1, 1) := by decide +kernel
theorem dX6_fetch_32 : decode cX6_fetch 32 = .ok (.iload 4, 2) := by decide +kernel
theorem dX6_fetch_34 : decode cX6_fetch 34 = .ok (.iastore, 1) := by decide +kernel
theorem dX6_fetch_35 : decode cX6_fetch 35 = .ok (.iload 4, 2) := by decide +kernel
theorem dX6_fetch_37 : decode cX6_fetch 37 = .ok (.ifCond .ge 7, 3) := by decide +kernel
theorem dX6_fetch_40 : decode cX6_fetch 40 = .ok (.iconst (-1), 1) := by decide +kernel
theorem dX6_fetch_41 : decode cX6_fetch 41 = .ok (.goto 9, 3) := by decide +kernel
theorem dX6_fetch_44 : decode cX6_fetch 44 = .ok (.aload_n 0, 1) := by decide +kernel
theorem dX6_fetch_45 : decode cX6_fetch 45 = .ok (.iload 4, 2) := by decide +kernel
theorem dX6_fetch_47 : decode cX6_fetch 47 = .ok (.invokevirtual 84, 3) := by decide +kernel
theorem dX6_fetch_50 : decode cX6_fetch 50 = .ok (.ireturn, 1) := by decide +kernel
theorem dX6_isRecord_0 : decode cX6_isRecord 0 = .ok (.aload_n 0, 1) := by decide +kernel
theorem dX6_isRecord_1 : decode cX6_isRecord 1 = .ok (.getfield 7, 3) := by decide +kernel
theorem dX6_isRecord_4 : decode cX6_isRecord 4 = .ok (.iload_n 1, 1) := by decide +kernel
theorem dX6_isRecord_5 : decode cX6_isRecord 5 = .ok (.iaload, 1) := by decide +kernel
theorem dX6_isRecord_6 : decode cX6_isRecord 6 = .ok (.istore_n 2, 1) := by decide +kernel
theorem dX6_isRecord_7 : decode cX6_isRecord 7 = .ok (.aload_n 0, 1) := by decide +kernel
theorem dX6_isRecord_8 : decode cX6_isRecord 8 = .ok (.iload_n 2, 1) := by decide +kernel
theorem dX6_isRecord_9 : decode cX6_isRecord 9 = .ok (.ifCond .lt 14, 3) := by decide +kernel
theorem dX6_isRecord_12 : decode cX6_isRecord 12 = .ok (.aload_n 0, 1) := by decide +kernel
theorem dX6_isRecord_13 : decode cX6_isRecord 13 = .ok (.getfield 13, 3) := by decide +kernel
theorem dX6_isRecord_16 : decode cX6_isRecord 16 = .ok (.iload_n 2, 1) := by decide +kernel
theorem dX6_isRecord_17 : decode cX6_isRecord 17 = .ok (.iaload, 1) := by decide +kernel
theorem dX6_isRecord_18 : decode cX6_isRecord 18 = .ok (.bipush 10, 2) := by decide +kernel
theorem dX6_isRecord_20 : decode cX6_isRecord 20 = .ok (.if_icmp .ne 7, 3) := by decide +kernel
theorem dX6_isRecord_23 : decode cX6_isRecord 23 = .ok (.iconst 1, 1) := by decide +kernel
theorem dX6_isRecord_24 : decode cX6_isRecord 24 = .ok (.goto 4, 3) := by decide +kernel
theorem dX6_isRecord_27 : decode cX6_isRecord 27 = .ok (.iconst 0, 1) := by decide +kernel
theorem dX6_isRecord_28 : decode cX6_isRecord 28 = .ok (.iconst 2, 1) := by decide +kernel
theorem dX6_isRecord_29 : decode cX6_isRecord 29 = .ok (.invokevirtual 44, 3) := by decide +kernel
theorem dX6_isRecord_32 : decode cX6_isRecord 32 = .ok (.ifCond .eq 24, 3) := by decide +kernel
theorem dX6_isRecord_35 : decode cX6_isRecord 35 = .ok (.aload_n 0, 1) := by decide +kernel
theorem dX6_isRecord_36 : decode cX6_isRecord 36 = .ok (.iload_n 2, 1) := by decide +kernel
theorem dX6_isRecord_37 : decode cX6_isRecord 37 = .ok (.ifCond .lt 7, 3) := by decide +kernel
theorem dX6_isRecord_40 : decode cX6_isRecord 40 = .ok (.iconst 1, 1) := by decide +kernel
theorem dX6_isRecord_41 : decode cX6_isRecord 41 = .ok (.goto 4, 3) := by decide +kernel
theorem dX6_isRecord_44 : decode cX6_isRecord 44 = .ok (.iconst 0, 1) := by decide +kernel
theorem dX6_isRecord_45 : decode cX6_isRecord 45 = .ok (.iconst 3, 1) := by decide +kernel
theorem dX6_isRecord_46 : decode cX6_isRecord 46 = .ok (.invokevirtual 44, 3) := by decide +kernel
theorem dX6_isRecord_49 : decode cX6_isRecord 49 = .ok (.ifCond .eq 7, 3) := by decide +kernel
theorem dX6_isRecord_52 : decode cX6_isRecord 52 = .ok (.iconst 1, 1) := by decide +kernel
theorem dX6_isRecord_53 : decode cX6_isRecord 53 = .ok (.goto 4, 3) := by decide +kernel
theorem dX6_isRecord_56 : decode cX6_isRecord 56 = .ok (.iconst 0, 1) := by decide +kernel
theorem dX6_isRecord_57 : decode cX6_isRecord 57 = .ok (.ireturn, 1) := by decide +kernel
theorem dX6_link_0 : decode cX6_link 0 = .ok (.aload_n 0, 1) := by decide +kernel
theorem dX6_link_1 : decode cX6_link 1 = .ok (.iload_n 1, 1) := by decide +kernel
theorem dX6_link_2 : decode cX6_link 2 = .ok (.iload_n 2, 1) := by decide +kernel
theorem dX6_link_3 : decode cX6_link 3 = .ok (.invokevirtual 61, 3) := by decide +kernel
theorem dX6_link_6 : decode cX6_link 6 = .ok (.ifCond .ne 4, 3) := by decide +kernel
theorem dX6_link_9 : decode cX6_link 9 = .ok (.return_, 1) := by decide +kernel
theorem dX6_link_10 : decode cX6_link 10 = .ok (.aload_n 0, 1) := by decide +kernel
theorem dX6_link_11 : decode cX6_link 11 = .ok (.getfield 7, 3) := by decide +kernel
theorem dX6_link_14 : decode cX6_link 14 = .ok (.iload_n 2, 1) := by decide +kernel
theorem dX6_link_15 : decode cX6_link 15 = .ok (.iaload, 1) := by decide +kernel
theorem dX6_link_16 : decode cX6_link 16 = .ok (.istore_n 3, 1) := by decide +kernel
theorem dX6_link_17 : decode cX6_link 17 = .ok (.aload_n 0, 1) := by decide +kernel
theorem dX6_link_18 : decode cX6_link 18 = .ok (.iload_n 3, 1) := by decide +kernel
theorem dX6_link_19 : decode cX6_link 19 = .ok (.ifCond .lt 14, 3) := by decide +kernel
theorem dX6_link_22 : decode cX6_link 22 = .ok (.aload_n 0, 1) := by decide +kernel
theorem dX6_link_23 : decode cX6_link 23 = .ok (.getfield 13, 3) := by decide +kernel
theorem dX6_link_26 : decode cX6_link 26 = .ok (.iload_n 3, 1) := by decide +kernel
theorem dX6_link_27 : decode cX6_link 27 = .ok (.iaload, 1) := by decide +kernel
theorem dX6_link_28 : decode cX6_link 28 = .ok (.bipush 10, 2) := by decide +kernel
theorem dX6_link_30 : decode cX6_link 30 = .ok (.if_icmp .ne 7, 3) := by decide +kernel
theorem dX6_link_33 : decode cX6_link 33 = .ok (.iconst 1, 1) := by decide +kernel
theorem dX6_link_34 : decode cX6_link 34 = .ok (.goto 4, 3) := by decide +kernel
theorem dX6_link_37 : decode cX6_link 37 = .ok (.iconst 0, 1) := by decide +kernel
theorem dX6_link_38 : decode cX6_link 38 = .ok (.iconst 2, 1) := by decide +kernel
theorem dX6_link_39 : decode cX6_link 39 = .ok (.invokevirtual 44, 3) := by decide +kernel
theorem dX6_link_42 : decode cX6_link 42 = .ok (.ifCond .eq 11, 3) := by decide +kernel
theorem dX6_link_45 : decode cX6_link 45 = .ok (.aload_n 0, 1) := by decide +kernel
theorem dX6_link_46 : decode cX6_link 46 = .ok (.iload_n 1, 1) := by decide +kernel
theorem dX6_link_47 : decode cX6_link 47 = .ok (.invokevirtual 107, 3) := by decide +kernel
theorem dX6_link_50 : decode cX6_link 50 = .ok (.ifCond .ne 4, 3) := by decide +kernel
theorem dX6_link_53 : decode cX6_link 53 = .ok (.return_, 1) := by decide +kernel
theorem dX6_link_54 : decode cX6_link 54 = .ok (.aload_n 0, 1) := by decide +kernel
theorem dX6_link_55 : decode cX6_link 55 = .ok (.getfield 28, 3) := by decide +kernel
theorem dX6_link_58 : decode cX6_link 58 = .ok (.bipush 24, 2) := by decide +kernel
theorem dX6_link_60 : decode cX6_link 60 = .ok (.aload_n 0, 1) := by decide +kernel
theorem dX6_link_61 : decode cX6_link 61 = .ok (.getfield 7, 3) := by decide +kernel
theorem dX6_link_64 : decode cX6_link 64 = .ok (.iload_n 1, 1) := by decide +kernel
theorem dX6_link_65 : decode cX6_link 65 = .ok (.iaload, 1) := by decide +kernel
theorem dX6_link_66 : decode cX6_link 66 = .ok (.imul, 1) := by decide +kernel
theorem dX6_link_67 : decode cX6_link 67 = .ok (.iconst 1, 1) := by decide +kernel
theorem dX6_link_68 : decode cX6_link 68 = .ok (.iadd, 1) := by decide +kernel
theorem dX6_link_69 : decode cX6_link 69 = .ok (.iload_n 3, 1) := by decide +kernel
theorem dX6_link_70 : decode cX6_link 70 = .ok (.i2l, 1) := by decide +kernel
theorem dX6_link_71 : decode cX6_link 71 = .ok (.lastore, 1) := by decide +kernel
theorem dX6_link_72 : decode cX6_link 72 = .ok (.return_, 1) := by decide +kernel
theorem dX6_follow_0 : decode cX6_follow 0 = .ok (.aload_n 0, 1) := by decide +kernel
theorem dX6_follow_1 : decode cX6_follow 1 = .ok (.iload_n 1, 1) := by decide +kernel
theorem dX6_follow_2 : decode cX6_follow 2 = .ok (.iload_n 2, 1) := by decide +kernel
theorem dX6_follow_3 : decode cX6_follow 3 = .ok (.invokevirtual 61, 3) := by decide +kernel
theorem dX6_follow_6 : decode cX6_follow 6 = .ok (.ifCond .eq 11, 3) := by decide +kernel
theorem dX6_follow_9 : decode cX6_follow 9 = .ok (.aload_n 0, 1) := by decide +kernel
theorem dX6_follow_10 : decode cX6_follow 10 = .ok (.iload_n 2, 1) := by decide +kernel
theorem dX6_follow_11 : decode cX6_follow 11 = .ok (.invokevirtual 107, 3) := by decide +kernel
theorem dX6_follow_14 : decode cX6_follow 14 = .ok (.ifCond .ne 5, 3) := by decide +kernel
theorem dX6_follow_17 : decode cX6_follow 17 = .ok (.iconst 0, 1) := by decide +kernel
theorem dX6_follow_18 : decode cX6_follow 18 = .ok (.ireturn, 1) := by decide +kernel
theorem dX6_follow_19 : decode cX6_follow 19 = .ok (.aload_n 0, 1) := by decide +kernel
theorem dX6_follow_20 : decode cX6_follow 20 = .ok (.getfield 7, 3) := by decide +kernel
theorem dX6_follow_23 : decode cX6_follow 23 = .ok (.iload_n 1, 1) := by decide +kernel
theorem dX6_follow_24 : decode cX6_follow 24 = .ok (.aload_n 0, 1) := by decide +kernel
theorem dX6_follow_25 : decode cX6_follow 25 = .ok (.getfield 28, 3) := by decide +kernel
theorem dX6_follow_28 : decode cX6_follow 28 = .ok (.bipush 24, 2) := by decide +kernel
theorem dX6_follow_30 : decode cX6_follow 30 = .ok (.aload_n 0, 1) := by decide +kernel
theorem dX6_follow_31 : decode cX6_follow 31 = .ok (.getfield 7, 3) := by decide +kernel
theorem dX6_follow_34 : decode cX6_follow 34 = .ok (.iload_n 2, 1) := by decide +kernel
theorem dX6_follow_35 : decode cX6_follow 35 = .ok (.iaload, 1) := by decide +kernel
theorem dX6_follow_36 : decode cX6_follow 36 = .ok (.imul, 1) := by decide +kernel
theorem dX6_follow_37 : decode cX6_follow 37 = .ok (.iconst 1, 1) := by decide +kernel
theorem dX6_follow_38 : decode cX6_follow 38 = .ok (.iadd, 1) := by decide +kernel
theorem dX6_follow_39 : decode cX6_follow 39 = .ok (.laload, 1) := by decide +kernel
theorem dX6_follow_40 : decode cX6_follow 40 = .ok (.l2i, 1) := by decide +kernel
theorem dX6_follow_41 : decode cX6_follow 41 = .ok (.iastore, 1) := by decide +kernel
theorem dX6_follow_42 : decode cX6_follow 42 = .ok (.aload_n 0, 1) := by decide +kernel
theorem dX6_follow_43 : decode cX6_follow 43 = .ok (.getfield 7, 3) := by decide +kernel
theorem dX6_follow_46 : decode cX6_follow 46 = .ok (.iload_n 1, 1) := by decide +kernel
theorem dX6_follow_47 : decode cX6_follow 47 = .ok (.iaload, 1) := by decide +kernel
theorem dX6_follow_48 : decode cX6_follow 48 = .ok (.ifCond .ge 7, 3) := by decide +kernel
theorem dX6_follow_51 : decode cX6_follow 51 = .ok (.iconst 1, 1) := by decide +kernel
theorem dX6_follow_52 : decode cX6_follow 52 = .ok (.goto 4, 3) := by decide +kernel
theorem dX6_follow_55 : decode cX6_follow 55 = .ok (.iconst 0, 1) := by decide +kernel
theorem dX6_follow_56 : decode cX6_follow 56 = .ok (.ireturn, 1) := by decide +kernel
theorem dX6_exchange_0 : decode cX6_exchange 0 = .ok (.aload_n 0, 1) := by decide +kernel
theorem dX6_exchange_1 : decode cX6_exchange 1 = .ok (.iload_n 1, 1) := by decide +kernel
theorem dX6_exchange_2 : decode cX6_exchange 2 = .ok (.iconst 0, 1) := by decide +kernel
theorem dX6_exchange_3 : decode cX6_exchange 3 = .ok (.invokevirtual 61, 3) := by decide +kernel
theorem dX6_exchange_6 : decode cX6_exchange 6 = .ok (.ifCond .eq 11, 3) := by decide +kernel
theorem dX6_exchange_9 : decode cX6_exchange 9 = .ok (.aload_n 0, 1) := by decide +kernel
theorem dX6_exchange_10 : decode cX6_exchange 10 = .ok (.iload_n 1, 1) := by decide +kernel
theorem dX6_exchange_11 : decode cX6_exchange 11 = .ok (.invokevirtual 107, 3) := by decide +kernel
theorem dX6_exchange_14 : decode cX6_exchange 14 = .ok (.ifCond .ne 5, 3) := by decide +kernel
theorem dX6_exchange_17 : decode cX6_exchange 17 = .ok (.lconst 0, 1) := by decide +kernel
theorem dX6_exchange_18 : decode cX6_exchange 18 = .ok (.lreturn, 1) := by decide +kernel
theorem dX6_exchange_19 : decode cX6_exchange 19 = .ok (.bipush 24, 2) := by decide +kernel
theorem dX6_exchange_21 : decode cX6_exchange 21 = .ok (.aload_n 0, 1) := by decide +kernel
theorem dX6_exchange_22 : decode cX6_exchange 22 = .ok (.getfield 7, 3) := by decide +kernel
theorem dX6_exchange_25 : decode cX6_exchange 25 = .ok (.iload_n 1, 1) := by decide +kernel
theorem dX6_exchange_26 : decode cX6_exchange 26 = .ok (.iaload, 1) := by decide +kernel
theorem dX6_exchange_27 : decode cX6_exchange 27 = .ok (.imul, 1) := by decide +kernel
theorem dX6_exchange_28 : decode cX6_exchange 28 = .ok (.istore 4, 2) := by decide +kernel
theorem dX6_exchange_30 : decode cX6_exchange 30 = .ok (.aload_n 0, 1) := by decide +kernel
theorem dX6_exchange_31 : decode cX6_exchange 31 = .ok (.getfield 28, 3) := by decide +kernel
theorem dX6_exchange_34 : decode cX6_exchange 34 = .ok (.iload 4, 2) := by decide +kernel
theorem dX6_exchange_36 : decode cX6_exchange 36 = .ok (.laload, 1) := by decide +kernel
theorem dX6_exchange_37 : decode cX6_exchange 37 = .ok (.lstore 5, 2) := by decide +kernel
theorem dX6_exchange_39 : decode cX6_exchange 39 = .ok (.aload_n 0, 1) := by decide +kernel
theorem dX6_exchange_40 : decode cX6_exchange 40 = .ok (.getfield 28, 3) := by decide +kernel
theorem dX6_exchange_43 : decode cX6_exchange 43 = .ok (.iload 4, 2) := by decide +kernel
theorem dX6_exchange_45 : decode cX6_exchange 45 = .ok (.lload_n 2, 1) := by decide +kernel
theorem dX6_exchange_46 : decode cX6_exchange 46 = .ok (.lastore, 1) := by decide +kernel
theorem dX6_exchange_47 : decode cX6_exchange 47 = .ok (.lload 5, 2) := by decide +kernel
theorem dX6_exchange_49 : decode cX6_exchange 49 = .ok (.lreturn, 1) := by decide +kernel
theorem dX6_total_0 : decode cX6_total 0 = .ok (.aload_n 0, 1) := by decide +kernel
theorem dX6_total_1 : decode cX6_total 1 = .ok (.iload_n 1, 1) := by decide +kernel
theorem dX6_total_2 : decode cX6_total 2 = .ok (.iconst 0, 1) := by decide +kernel
theorem dX6_total_3 : decode cX6_total 3 = .ok (.invokevirtual 61, 3) := by decide +kernel
theorem dX6_total_6 : decode cX6_total 6 = .ok (.ifCond .eq 11, 3) := by decide +kernel
theorem dX6_total_9 : decode cX6_total 9 = .ok (.aload_n 0, 1) := by decide +kernel
theorem dX6_total_10 : decode cX6_total 10 = .ok (.iload_n 1, 1) := by decide +kernel
theorem dX6_total_11 : decode cX6_total 11 = .ok (.invokevirtual 107, 3) := by decide +kernel
theorem dX6_total_14 : decode cX6_total 14 = .ok (.ifCond .ne 5, 3) := by decide +kernel
theorem dX6_total_17 : decode cX6_total 17 = .ok (.lconst 0, 1) := by decide +kernel
theorem dX6_total_18 : decode cX6_total 18 = .ok (.lreturn, 1) := by decide +kernel
theorem dX6_total_19 : decode cX6_total 19 = .ok (.lconst 0, 1) := by decide +kernel
theorem dX6_total_20 : decode cX6_total 20 = .ok (.lstore_n 2, 1) := by decide +kernel
theorem dX6_total_21 : decode cX6_total 21 = .ok (.aload_n 0, 1) := by decide +kernel
theorem dX6_total_22 : decode cX6_total 22 = .ok (.getfield 7, 3) := by decide +kernel
theorem dX6_total_25 : decode cX6_total 25 = .ok (.iload_n 1, 1) := by decide +kernel
theorem dX6_total_26 : decode cX6_total 26 = .ok (.iaload, 1) := by decide +kernel
theorem dX6_total_27 : decode cX6_total 27 = .ok (.istore 4, 2) := by decide +kernel
theorem dX6_total_29 : decode cX6_total 29 = .ok (.iconst 0, 1) := by decide +kernel
theorem dX6_total_30 : decode cX6_total 30 = .ok (.istore 5, 2) := by decide +kernel
theorem dX6_total_32 : decode cX6_total 32 = .ok (.iload 5, 2) := by decide +kernel
theorem dX6_total_34 : decode cX6_total 34 = .ok (.bipush 20, 2) := by decide +kernel
theorem dX6_total_36 : decode cX6_total 36 = .ok (.if_icmp .ge 42, 3) := by decide +kernel
theorem dX6_total_39 : decode cX6_total 39 = .ok (.iload 4, 2) := by decide +kernel
theorem dX6_total_41 : decode cX6_total 41 = .ok (.ifCond .lt 37, 3) := by decide +kernel
theorem dX6_total_44 : decode cX6_total 44 = .ok (.lload_n 2, 1) := by decide +kernel
theorem dX6_total_45 : decode cX6_total 45 = .ok (.aload_n 0, 1) := by decide +kernel
theorem dX6_total_46 : decode cX6_total 46 = .ok (.getfield 28, 3) := by decide +kernel
theorem dX6_total_49 : decode cX6_total 49 = .ok (.bipush 24, 2) := by decide +kernel
theorem dX6_total_51 : decode cX6_total 51 = .ok (.iload 4, 2) := by decide +kernel
theorem dX6_total_53 : decode cX6_total 53 = .ok (.imul, 1) := by decide +kernel
theorem dX6_total_54 : decode cX6_total 54 = .ok (.laload, 1) := by decide +kernel
theorem dX6_total_55 : decode cX6_total 55 = .ok (.ladd, 1) := by decide +kernel
theorem dX6_total_56 : decode cX6_total 56 = .ok (.lstore_n 2, 1) := by decide +kernel
theorem dX6_total_57 : decode cX6_total 57 = .ok (.aload_n 0, 1) := by decide +kernel
theorem dX6_total_58 : decode cX6_total 58 = .ok (.getfield 28, 3) := by decide +kernel
theorem dX6_total_61 : decode cX6_total 61 = .ok (.bipush 24, 2) := by decide +kernel
theorem dX6_total_63 : decode cX6_total 63 = .ok (.iload 4, 2) := by decide +kernel
theorem dX6_total_65 : decode cX6_total 65 = .ok (.imul, 1) := by decide +kernel
theorem dX6_total_66 : decode cX6_total 66 = .ok (.iconst 1, 1) := by decide +kernel
theorem dX6_total_67 : decode cX6_total 67 = .ok (.iadd, 1) := by decide +kernel
theorem dX6_total_68 : decode cX6_total 68 = .ok (.laload, 1) := by decide +kernel
theorem dX6_total_69 : decode cX6_total 69 = .ok (.l2i, 1) := by decide +kernel
theorem dX6_total_70 : decode cX6_total 70 = .ok (.istore 4, 2) := by decide +kernel
theorem dX6_total_72 : decode cX6_total 72 = .ok (.iinc 5 1, 3) := by decide +kernel
theorem dX6_total_75 : decode cX6_total 75 = .ok (.goto (-43), 3) := by decide +kernel
theorem dX6_total_78 : decode cX6_total 78 = .ok (.lload_n 2, 1) := by decide +kernel
theorem dX6_total_79 : decode cX6_total 79 = .ok (.lreturn, 1) := by decide +kernel
theorem dX6_both_0 : decode cX6_both 0 = .ok (.aload_n 0, 1) := by decide +kernel
theorem dX6_both_1 : decode cX6_both 1 = .ok (.getfield 7, 3) := by decide +kernel
theorem dX6_both_4 : decode cX6_both 4 = .ok (.iload_n 1, 1) := by decide +kernel
theorem dX6_both_5 : decode cX6_both 5 = .ok (.iaload, 1) := by decide +kernel
theorem dX6_both_6 : decode cX6_both 6 = .ok (.istore 4, 2) := by decide +kernel
theorem dX6_both_8 : decode cX6_both 8 = .ok (.aload_n 0, 1) := by decide +kernel
theorem dX6_both_9 : decode cX6_both 9 = .ok (.getfield 7, 3) := by decide +kernel
theorem dX6_both_12 : decode cX6_both 12 = .ok (.iload_n 2, 1) := by decide +kernel
theorem dX6_both_13 : decode cX6_both 13 = .ok (.iaload, 1) := by decide +kernel
theorem dX6_both_14 : decode cX6_both 14 = .ok (.istore 5, 2) := by decide +kernel
theorem dX6_both_16 : decode cX6_both 16 = .ok (.aload_n 0, 1) := by decide +kernel
