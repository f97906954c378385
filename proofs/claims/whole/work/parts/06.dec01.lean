theorem dX5_refer_20 : decode cX5_refer 20 = .ok (.bipush 8, 2) := by decide +kernel
theorem dX5_refer_22 : decode cX5_refer 22 = .ok (.if_icmp .ne 7, 3) := by decide +kernel
theorem dX5_refer_25 : decode cX5_refer 25 = .ok (.iconst 1, 1) := by decide +kernel
theorem dX5_refer_26 : decode cX5_refer 26 = .ok (.goto 4, 3) := by decide +kernel
theorem dX5_refer_29 : decode cX5_refer 29 = .ok (.iconst 0, 1) := by decide +kernel
theorem dX5_refer_30 : decode cX5_refer 30 = .ok (.invokestatic 53, 3) := by decide +kernel
theorem dX5_refer_33 : decode cX5_refer 33 = .ok (.aload 4, 2) := by decide +kernel
theorem dX5_refer_35 : decode cX5_refer 35 = .ok (.iload_n 2, 1) := by decide +kernel
theorem dX5_refer_36 : decode cX5_refer 36 = .ok (.invokestatic 127, 3) := by decide +kernel
theorem dX5_refer_39 : decode cX5_refer 39 = .ok (.istore 5, 2) := by decide +kernel
theorem dX5_refer_41 : decode cX5_refer 41 = .ok (.aload 4, 2) := by decide +kernel
theorem dX5_refer_43 : decode cX5_refer 43 = .ok (.invokevirtual 49, 3) := by decide +kernel
theorem dX5_refer_46 : decode cX5_refer 46 = .ok (.getfield 131, 3) := by decide +kernel
theorem dX5_refer_49 : decode cX5_refer 49 = .ok (.iload 5, 2) := by decide +kernel
theorem dX5_refer_51 : decode cX5_refer 51 = .ok (.aload_n 0, 1) := by decide +kernel
theorem dX5_refer_52 : decode cX5_refer 52 = .ok (.getfield 11, 3) := by decide +kernel
theorem dX5_refer_55 : decode cX5_refer 55 = .ok (.iload_n 3, 1) := by decide +kernel
theorem dX5_refer_56 : decode cX5_refer 56 = .ok (.aaload, 1) := by decide +kernel
theorem dX5_refer_57 : decode cX5_refer 57 = .ok (.aastore, 1) := by decide +kernel
theorem dX5_refer_58 : decode cX5_refer 58 = .ok (.return_, 1) := by decide +kernel
theorem dX5_fetch_0 : decode cX5_fetch 0 = .ok (.iload_n 1, 1) := by decide +kernel
theorem dX5_fetch_1 : decode cX5_fetch 1 = .ok (.invokestatic 19, 3) := by decide +kernel
theorem dX5_fetch_4 : decode cX5_fetch 4 = .ok (.iload_n 2, 1) := by decide +kernel
theorem dX5_fetch_5 : decode cX5_fetch 5 = .ok (.invokestatic 19, 3) := by decide +kernel
theorem dX5_fetch_8 : decode cX5_fetch 8 = .ok (.aload_n 0, 1) := by decide +kernel
theorem dX5_fetch_9 : decode cX5_fetch 9 = .ok (.iload_n 2, 1) := by decide +kernel
theorem dX5_fetch_10 : decode cX5_fetch 10 = .ok (.invokevirtual 45, 3) := by decide +kernel
theorem dX5_fetch_13 : decode cX5_fetch 13 = .ok (.astore 4, 2) := by decide +kernel
theorem dX5_fetch_15 : decode cX5_fetch 15 = .ok (.aload 4, 2) := by decide +kernel
theorem dX5_fetch_17 : decode cX5_fetch 17 = .ok (.invokevirtual 101, 3) := by decide +kernel
theorem dX5_fetch_20 : decode cX5_fetch 20 = .ok (.bipush 8, 2) := by decide +kernel
theorem dX5_fetch_22 : decode cX5_fetch 22 = .ok (.if_icmp .ne 7, 3) := by decide +kernel
theorem dX5_fetch_25 : decode cX5_fetch 25 = .ok (.iconst 1, 1) := by decide +kernel
theorem dX5_fetch_26 : decode cX5_fetch 26 = .ok (.goto 4, 3) := by decide +kernel
theorem dX5_fetch_29 : decode cX5_fetch 29 = .ok (.iconst 0, 1) := by decide +kernel
theorem dX5_fetch_30 : decode cX5_fetch 30 = .ok (.invokestatic 53, 3) := by decide +kernel
theorem dX5_fetch_33 : decode cX5_fetch 33 = .ok (.aload 4, 2) := by decide +kernel
theorem dX5_fetch_35 : decode cX5_fetch 35 = .ok (.iload_n 3, 1) := by decide +kernel
theorem dX5_fetch_36 : decode cX5_fetch 36 = .ok (.invokestatic 127, 3) := by decide +kernel
theorem dX5_fetch_39 : decode cX5_fetch 39 = .ok (.istore 5, 2) := by decide +kernel
theorem dX5_fetch_41 : decode cX5_fetch 41 = .ok (.aload 4, 2) := by decide +kernel
theorem dX5_fetch_43 : decode cX5_fetch 43 = .ok (.invokevirtual 49, 3) := by decide +kernel
theorem dX5_fetch_46 : decode cX5_fetch 46 = .ok (.getfield 131, 3) := by decide +kernel
theorem dX5_fetch_49 : decode cX5_fetch 49 = .ok (.iload 5, 2) := by decide +kernel
theorem dX5_fetch_51 : decode cX5_fetch 51 = .ok (.aaload, 1) := by decide +kernel
theorem dX5_fetch_52 : decode cX5_fetch 52 = .ok (.astore 6, 2) := by decide +kernel
theorem dX5_fetch_54 : decode cX5_fetch 54 = .ok (.aload_n 0, 1) := by decide +kernel
theorem dX5_fetch_55 : decode cX5_fetch 55 = .ok (.getfield 11, 3) := by decide +kernel
theorem dX5_fetch_58 : decode cX5_fetch 58 = .ok (.iload_n 1, 1) := by decide +kernel
theorem dX5_fetch_59 : decode cX5_fetch 59 = .ok (.aload 6, 2) := by decide +kernel
theorem dX5_fetch_61 : decode cX5_fetch 61 = .ok (.aastore, 1) := by decide +kernel
theorem dX5_fetch_62 : decode cX5_fetch 62 = .ok (.aload 6, 2) := by decide +kernel
theorem dX5_fetch_64 : decode cX5_fetch 64 = .ok (.ifnonnull 7, 3) := by decide +kernel
theorem dX5_fetch_67 : decode cX5_fetch 67 = .ok (.iconst (-1), 1) := by decide +kernel
theorem dX5_fetch_68 : decode cX5_fetch 68 = .ok (.goto 8, 3) := by decide +kernel
theorem dX5_fetch_71 : decode cX5_fetch 71 = .ok (.aload 6, 2) := by decide +kernel
theorem dX5_fetch_73 : decode cX5_fetch 73 = .ok (.invokevirtual 101, 3) := by decide +kernel
theorem dX5_fetch_76 : decode cX5_fetch 76 = .ok (.ireturn, 1) := by decide +kernel
theorem dX5_link_0 : decode cX5_link 0 = .ok (.iload_n 1, 1) := by decide +kernel
theorem dX5_link_1 : decode cX5_link 1 = .ok (.invokestatic 19, 3) := by decide +kernel
theorem dX5_link_4 : decode cX5_link 4 = .ok (.iload_n 2, 1) := by decide +kernel
theorem dX5_link_5 : decode cX5_link 5 = .ok (.invokestatic 19, 3) := by decide +kernel
theorem dX5_link_8 : decode cX5_link 8 = .ok (.aload_n 0, 1) := by decide +kernel
theorem dX5_link_9 : decode cX5_link 9 = .ok (.iload_n 2, 1) := by decide +kernel
theorem dX5_link_10 : decode cX5_link 10 = .ok (.invokevirtual 134, 3) := by decide +kernel
theorem dX5_link_13 : decode cX5_link 13 = .ok (.astore_n 3, 1) := by decide +kernel
theorem dX5_link_14 : decode cX5_link 14 = .ok (.aload_n 0, 1) := by decide +kernel
theorem dX5_link_15 : decode cX5_link 15 = .ok (.iload_n 1, 1) := by decide +kernel
theorem dX5_link_16 : decode cX5_link 16 = .ok (.invokevirtual 138, 3) := by decide +kernel
theorem dX5_link_19 : decode cX5_link 19 = .ok (.aload_n 3, 1) := by decide +kernel
theorem dX5_link_20 : decode cX5_link 20 = .ok (.putfield 141, 3) := by decide +kernel
theorem dX5_link_23 : decode cX5_link 23 = .ok (.return_, 1) := by decide +kernel
theorem dX5_follow_0 : decode cX5_follow 0 = .ok (.iload_n 1, 1) := by decide +kernel
theorem dX5_follow_1 : decode cX5_follow 1 = .ok (.invokestatic 19, 3) := by decide +kernel
theorem dX5_follow_4 : decode cX5_follow 4 = .ok (.iload_n 2, 1) := by decide +kernel
theorem dX5_follow_5 : decode cX5_follow 5 = .ok (.invokestatic 19, 3) := by decide +kernel
theorem dX5_follow_8 : decode cX5_follow 8 = .ok (.aload_n 0, 1) := by decide +kernel
theorem dX5_follow_9 : decode cX5_follow 9 = .ok (.iload_n 2, 1) := by decide +kernel
theorem dX5_follow_10 : decode cX5_follow 10 = .ok (.invokevirtual 138, 3) := by decide +kernel
theorem dX5_follow_13 : decode cX5_follow 13 = .ok (.getfield 141, 3) := by decide +kernel
theorem dX5_follow_16 : decode cX5_follow 16 = .ok (.astore_n 3, 1) := by decide +kernel
theorem dX5_follow_17 : decode cX5_follow 17 = .ok (.aload_n 0, 1) := by decide +kernel
theorem dX5_follow_18 : decode cX5_follow 18 = .ok (.getfield 11, 3) := by decide +kernel
theorem dX5_follow_21 : decode cX5_follow 21 = .ok (.iload_n 1, 1) := by decide +kernel
theorem dX5_follow_22 : decode cX5_follow 22 = .ok (.aload_n 3, 1) := by decide +kernel
theorem dX5_follow_23 : decode cX5_follow 23 = .ok (.aastore, 1) := by decide +kernel
theorem dX5_follow_24 : decode cX5_follow 24 = .ok (.aload_n 3, 1) := by decide +kernel
theorem dX5_follow_25 : decode cX5_follow 25 = .ok (.ifnonnull 7, 3) := by decide +kernel
theorem dX5_follow_28 : decode cX5_follow 28 = .ok (.iconst 1, 1) := by decide +kernel
theorem dX5_follow_29 : decode cX5_follow 29 = .ok (.goto 4, 3) := by decide +kernel
theorem dX5_follow_32 : decode cX5_follow 32 = .ok (.iconst 0, 1) := by decide +kernel
theorem dX5_follow_33 : decode cX5_follow 33 = .ok (.ireturn, 1) := by decide +kernel
theorem dX5_exchange_0 : decode cX5_exchange 0 = .ok (.iload_n 1, 1) := by decide +kernel
theorem dX5_exchange_1 : decode cX5_exchange 1 = .ok (.invokestatic 19, 3) := by decide +kernel
theorem dX5_exchange_4 : decode cX5_exchange 4 = .ok (.aload_n 0, 1) := by decide +kernel
theorem dX5_exchange_5 : decode cX5_exchange 5 = .ok (.iload_n 1, 1) := by decide +kernel
theorem dX5_exchange_6 : decode cX5_exchange 6 = .ok (.invokevirtual 138, 3) := by decide +kernel
theorem dX5_exchange_9 : decode cX5_exchange 9 = .ok (.astore 4, 2) := by decide +kernel
theorem dX5_exchange_11 : decode cX5_exchange 11 = .ok (.aload 4, 2) := by decide +kernel
theorem dX5_exchange_13 : decode cX5_exchange 13 = .ok (.getfield 145, 3) := by decide +kernel
theorem dX5_exchange_16 : decode cX5_exchange 16 = .ok (.lstore 5, 2) := by decide +kernel
theorem dX5_exchange_18 : decode cX5_exchange 18 = .ok (.aload 4, 2) := by decide +kernel
theorem dX5_exchange_20 : decode cX5_exchange 20 = .ok (.lload_n 2, 1) := by decide +kernel
theorem dX5_exchange_21 : decode cX5_exchange 21 = .ok (.putfield 145, 3) := by decide +kernel
theorem dX5_exchange_24 : decode cX5_exchange 24 = .ok (.lload 5, 2) := by decide +kernel
theorem dX5_exchange_26 : decode cX5_exchange 26 = .ok (.lreturn, 1) := by decide +kernel
theorem dX5_total_0 : decode cX5_total 0 = .ok (.iload_n 1, 1) := by decide +kernel
theorem dX5_total_1 : decode cX5_total 1 = .ok (.invokestatic 19, 3) := by decide +kernel
theorem dX5_total_4 : decode cX5_total 4 = .ok (.aload_n 0, 1) := by decide +kernel
theorem dX5_total_5 : decode cX5_total 5 = .ok (.iload_n 1, 1) := by decide +kernel
theorem dX5_total_6 : decode cX5_total 6 = .ok (.invokevirtual 138, 3) := by decide +kernel
theorem dX5_total_9 : decode cX5_total 9 = .ok (.astore_n 2, 1) := by decide +kernel
theorem dX5_total_10 : decode cX5_total 10 = .ok (.lconst 0, 1) := by decide +kernel
theorem dX5_total_11 : decode cX5_total 11 = .ok (.lstore_n 3, 1) := by decide +kernel
theorem dX5_total_12 : decode cX5_total 12 = .ok (.iconst 0, 1) := by decide +kernel
theorem dX5_total_13 : decode cX5_total 13 = .ok (.istore 5, 2) := by decide +kernel
theorem dX5_total_15 : decode cX5_total 15 = .ok (.iload 5, 2) := by decide +kernel
theorem dX5_total_17 : decode cX5_total 17 = .ok (.bipush 20, 2) := by decide +kernel
theorem dX5_total_19 : decode cX5_total 19 = .ok (.if_icmp .ge 25, 3) := by decide +kernel
theorem dX5_total_22 : decode cX5_total 22 = .ok (.aload_n 2, 1) := by decide +kernel
theorem dX5_total_23 : decode cX5_total 23 = .ok (.ifnull 21, 3) := by decide +kernel
theorem dX5_total_26 : decode cX5_total 26 = .ok (.lload_n 3, 1) := by decide +kernel
theorem dX5_total_27 : decode cX5_total 27 = .ok (.aload_n 2, 1) := by decide +kernel
theorem dX5_total_28 : decode cX5_total 28 = .ok (.getfield 145, 3) := by decide +kernel
theorem dX5_total_31 : decode cX5_total 31 = .ok (.ladd, 1) := by decide +kernel
theorem dX5_total_32 : decode cX5_total 32 = .ok (.lstore_n 3, 1) := by decide +kernel
theorem dX5_total_33 : decode cX5_total 33 = .ok (.aload_n 2, 1) := by decide +kernel
theorem dX5_total_34 : decode cX5_total 34 = .ok (.getfield 141, 3) := by decide +kernel
theorem dX5_total_37 : decode cX5_total 37 = .ok (.astore_n 2, 1) := by decide +kernel
theorem dX5_total_38 : decode cX5_total 38 = .ok (.iinc 5 1, 3) := by decide +kernel
theorem dX5_total_41 : decode cX5_total 41 = .ok (.goto (-26), 3) := by decide +kernel
theorem dX5_total_44 : decode cX5_total 44 = .ok (.lload_n 3, 1) := by decide +kernel
theorem dX5_total_45 : decode cX5_total 45 = .ok (.lreturn, 1) := by decide +kernel
theorem dX5_combine_0 : decode cX5_combine 0 = .ok (.iload_n 1, 1) := by decide +kernel
theorem dX5_combine_1 : decode cX5_combine 1 = .ok (.ifCond .lt 12, 3) := by decide +kernel
theorem dX5_combine_4 : decode cX5_combine 4 = .ok (.iload_n 1, 1) := by decide +kernel
theorem dX5_combine_5 : decode cX5_combine 5 = .ok (.iconst 4, 1) := by decide +kernel
theorem dX5_combine_6 : decode cX5_combine 6 = .ok (.if_icmp .gt 7, 3) := by decide +kernel
theorem dX5_combine_9 : decode cX5_combine 9 = .ok (.iconst 1, 1) := by decide +kernel
theorem dX5_combine_10 : decode cX5_combine 10 = .ok (.goto 4, 3) := by decide +kernel
theorem dX5_combine_13 : decode cX5_combine 13 = .ok (.iconst 0, 1) := by decide +kernel
theorem dX5_combine_14 : decode cX5_combine 14 = .ok (.invokestatic 23, 3) := by decide +kernel
theorem dX5_combine_17 : decode cX5_combine 17 = .ok (.iload_n 2, 1) := by decide +kernel
theorem dX5_combine_18 : decode cX5_combine 18 = .ok (.invokestatic 19, 3) := by decide +kernel
theorem dX5_combine_21 : decode cX5_combine 21 = .ok (.iload 4, 2) := by decide +kernel
theorem dX5_combine_23 : decode cX5_combine 23 = .ok (.invokestatic 19, 3) := by decide +kernel
theorem dX5_combine_26 : decode cX5_combine 26 = .ok (.aload_n 0, 1) := by decide +kernel
theorem dX5_combine_27 : decode cX5_combine 27 = .ok (.iload_n 2, 1) := by decide +kernel
theorem dX5_combine_28 : decode cX5_combine 28 = .ok (.invokevirtual 45, 3) := by decide +kernel
theorem dX5_combine_31 : decode cX5_combine 31 = .ok (.astore 6, 2) := by decide +kernel
theorem dX5_combine_33 : decode cX5_combine 33 = .ok (.aload_n 0, 1) := by decide +kernel
theorem dX5_combine_34 : decode cX5_combine 34 = .ok (.iload 4, 2) := by decide +kernel
theorem dX5_combine_36 : decode cX5_combine 36 = .ok (.invokevirtual 45, 3) := by decide +kernel
theorem dX5_combine_39 : decode cX5_combine 39 = .ok (.astore 7, 2) := by decide +kernel
theorem dX5_combine_41 : decode cX5_combine 41 = .ok (.aload 6, 2) := by decide +kernel
theorem dX5_combine_43 : decode cX5_combine 43 = .ok (.invokevirtual 101, 3) := by decide +kernel
theorem dX5_combine_46 : decode cX5_combine 46 = .ok (.iconst 5, 1) := by decide +kernel
theorem dX5_combine_47 : decode cX5_combine 47 = .ok (.if_icmp .gt 16, 3) := by decide +kernel
theorem dX5_combine_50 : decode cX5_combine 50 = .ok (.aload 7, 2) := by decide +kernel
theorem dX5_combine_52 : decode cX5_combine 52 = .ok (.invokevirtual 101, 3) := by decide +kernel
theorem dX5_combine_55 : decode cX5_combine 55 = .ok (.iconst 5, 1) := by decide +kernel
theorem dX5_combine_56 : decode cX5_combine 56 = .ok (.if_icmp .gt 7, 3) := by decide +kernel
theorem dX5_combine_59 : decode cX5_combine 59 = .ok (.iconst 1, 1) := by decide +kernel
theorem dX5_combine_60 : decode cX5_combine 60 = .ok (.goto 4, 3) := by decide +kernel
theorem dX5_combine_63 : decode cX5_combine 63 = .ok (.iconst 0, 1) := by decide +kernel
theorem dX5_combine_64 : decode cX5_combine 64 = .ok (.invokestatic 53, 3) := by decide +kernel
theorem dX5_combine_67 : decode cX5_combine 67 = .ok (.aload 6, 2) := by decide +kernel
theorem dX5_combine_69 : decode cX5_combine 69 = .ok (.iload_n 3, 1) := by decide +kernel
theorem dX5_combine_70 : decode cX5_combine 70 = .ok (.invokestatic 104, 3) := by decide +kernel
theorem dX5_combine_73 : decode cX5_combine 73 = .ok (.lstore 8, 2) := by decide +kernel
theorem dX5_combine_75 : decode cX5_combine 75 = .ok (.aload 7, 2) := by decide +kernel
theorem dX5_combine_77 : decode cX5_combine 77 = .ok (.iload 5, 2) := by decide +kernel
theorem dX5_combine_79 : decode cX5_combine 79 = .ok (.invokestatic 104, 3) := by decide +kernel
theorem dX5_combine_82 : decode cX5_combine 82 = .ok (.lstore 10, 2) := by decide +kernel
theorem dX5_combine_84 : decode cX5_combine 84 = .ok (.iload_n 1, 1) := by decide +kernel
theorem dX5_combine_85 : decode cX5_combine 85 = .ok (.lload 8, 2) := by decide +kernel
theorem dX5_combine_87 : decode cX5_combine 87 = .ok (.lload 10, 2) := by decide +kernel
theorem dX5_combine_89 : decode cX5_combine 89 = .ok (.invokestatic 149, 3) := by decide +kernel
theorem dX5_combine_92 : decode cX5_combine 92 = .ok (.lstore 12, 2) := by decide +kernel
theorem dX5_combine_94 : decode cX5_combine 94 = .ok (.aload 6, 2) := by decide +kernel
theorem dX5_combine_96 : decode cX5_combine 96 = .ok (.invokevirtual 101, 3) := by decide +kernel
theorem dX5_combine_99 : decode cX5_combine 99 = .ok (.iconst 5, 1) := by decide +kernel
theorem dX5_combine_100 : decode cX5_combine 100 = .ok (.if_icmp .ge 16, 3) := by decide +kernel
theorem dX5_combine_103 : decode cX5_combine 103 = .ok (.aload 7, 2) := by decide +kernel
theorem dX5_combine_105 : decode cX5_combine 105 = .ok (.invokevirtual 101, 3) := by decide +kernel
theorem dX5_combine_108 : decode cX5_combine 108 = .ok (.iconst 5, 1) := by decide +kernel
theorem dX5_combine_109 : decode cX5_combine 109 = .ok (.if_icmp .ge 7, 3) := by decide +kernel
theorem dX5_combine_112 : decode cX5_combine 112 = .ok (.iconst 1, 1) := by decide +kernel
theorem dX5_combine_113 : decode cX5_combine 113 = .ok (.goto 4, 3) := by decide +kernel
theorem dX5_combine_116 : decode cX5_combine 116 = .ok (.iconst 0, 1) := by decide +kernel
theorem dX5_combine_117 : decode cX5_combine 117 = .ok (.istore 14, 2) := by decide +kernel
theorem dX5_combine_119 : decode cX5_combine 119 = .ok (.aload 6, 2) := by decide +kernel
theorem dX5_combine_121 : decode cX5_combine 121 = .ok (.iload_n 3, 1) := by decide +kernel
theorem dX5_combine_122 : decode cX5_combine 122 = .ok (.iload 14, 2) := by decide +kernel
theorem dX5_combine_124 : decode cX5_combine 124 = .ok (.ifCond .eq 10, 3) := by decide +kernel
theorem dX5_combine_127 : decode cX5_combine 127 = .ok (.lload 12, 2) := by decide +kernel
theorem dX5_combine_129 : decode cX5_combine 129 = .ok (.l2i, 1) := by decide +kernel
theorem dX5_combine_130 : decode cX5_combine 130 = .ok (.i2l, 1) := by decide +kernel
theorem dX5_combine_131 : decode cX5_combine 131 = .ok (.goto 5, 3) := by decide +kernel
theorem dX5_combine_134 : decode cX5_combine 134 = .ok (.lload 12, 2) := by decide +kernel
theorem dX5_combine_136 : decode cX5_combine 136 = .ok (.invokestatic 108, 3) := by decide +kernel
theorem dX5_combine_139 : decode cX5_combine 139 = .ok (.lreturn, 1) := by decide +kernel
theorem dX5_move_0 : decode cX5_move 0 = .ok (.iload_n 1, 1) := by decide +kernel
theorem dX5_move_1 : decode cX5_move 1 = .ok (.invokestatic 19, 3) := by decide +kernel
theorem dX5_move_4 : decode cX5_move 4 = .ok (.iload_n 3, 1) := by decide +kernel
theorem dX5_move_5 : decode cX5_move 5 = .ok (.invokestatic 19, 3) := by decide +kernel
theorem dX5_move_8 : decode cX5_move 8 = .ok (.iload 5, 2) := by decide +kernel
theorem dX5_move_10 : decode cX5_move 10 = .ok (.ifCond .lt 14, 3) := by decide +kernel
theorem dX5_move_13 : decode cX5_move 13 = .ok (.iload 5, 2) := by decide +kernel
theorem dX5_move_15 : decode cX5_move 15 = .ok (.bipush 24, 2) := by decide +kernel
theorem dX5_move_17 : decode cX5_move 17 = .ok (.if_icmp .gt 7, 3) := by decide +kernel
theorem dX5_move_20 : decode cX5_move 20 = .ok (.iconst 1, 1) := by decide +kernel
theorem dX5_move_21 : decode cX5_move 21 = .ok (.goto 4, 3) := by decide +kernel
theorem dX5_move_24 : decode cX5_move 24 = .ok (.iconst 0, 1) := by decide +kernel
theorem dX5_move_25 : decode cX5_move 25 = .ok (.invokestatic 23, 3) := by decide +kernel
theorem dX5_move_28 : decode cX5_move 28 = .ok (.aload_n 0, 1) := by decide +kernel
theorem dX5_move_29 : decode cX5_move 29 = .ok (.iload_n 1, 1) := by decide +kernel
theorem dX5_move_30 : decode cX5_move 30 = .ok (.invokevirtual 45, 3) := by decide +kernel
theorem dX5_move_33 : decode cX5_move 33 = .ok (.astore 6, 2) := by decide +kernel
theorem dX5_move_35 : decode cX5_move 35 = .ok (.aload_n 0, 1) := by decide +kernel
theorem dX5_move_36 : decode cX5_move 36 = .ok (.iload_n 3, 1) := by decide +kernel
theorem dX5_move_37 : decode cX5_move 37 = .ok (.invokevirtual 45, 3) := by decide +kernel
theorem dX5_move_40 : decode cX5_move 40 = .ok (.astore 7, 2) := by decide +kernel
theorem dX5_move_42 : decode cX5_move 42 = .ok (.aload 6, 2) := by decide +kernel
theorem dX5_move_44 : decode cX5_move 44 = .ok (.invokevirtual 101, 3) := by decide +kernel
theorem dX5_move_47 : decode cX5_move 47 = .ok (.bipush 7, 2) := by decide +kernel
theorem dX5_move_49 : decode cX5_move 49 = .ok (.if_icmp .gt 17, 3) := by decide +kernel
theorem dX5_move_52 : decode cX5_move 52 = .ok (.aload 7, 2) := by decide +kernel
theorem dX5_move_54 : decode cX5_move 54 = .ok (.invokevirtual 101, 3) := by decide +kernel
theorem dX5_move_57 : decode cX5_move 57 = .ok (.bipush 7, 2) := by decide +kernel
theorem dX5_move_59 : decode cX5_move 59 = .ok (.if_icmp .gt 7, 3) := by decide +kernel
theorem dX5_move_62 : decode cX5_move 62 = .ok (.iconst 1, 1) := by decide +kernel
theorem dX5_move_63 : decode cX5_move 63 = .ok (.goto 4, 3) := by decide +kernel
theorem dX5_move_66 : decode cX5_move 66 = .ok (.iconst 0, 1) := by decide +kernel
theorem dX5_move_67 : decode cX5_move 67 = .ok (.invokestatic 53, 3) := by decide +kernel
theorem dX5_move_70 : decode cX5_move 70 = .ok (.iconst 0, 1) := by decide +kernel
theorem dX5_move_71 : decode cX5_move 71 = .ok (.istore 8, 2) := by decide +kernel
theorem dX5_move_73 : decode cX5_move 73 = .ok (.iload 8, 2) := by decide +kernel
theorem dX5_move_75 : decode cX5_move 75 = .ok (.iload 5, 2) := by decide +kernel
theorem dX5_move_77 : decode cX5_move 77 = .ok (.if_icmp .ge 33, 3) := by decide +kernel
theorem dX5_move_80 : decode cX5_move 80 = .ok (.aload 7, 2) := by decide +kernel
theorem dX5_move_82 : decode cX5_move 82 = .ok (.iload 4, 2) := by decide +kernel
theorem dX5_move_84 : decode cX5_move 84 = .ok (.iload 8, 2) := by decide +kernel
theorem dX5_move_86 : decode cX5_move 86 = .ok (.iadd, 1) := by decide +kernel
theorem dX5_move_87 : decode cX5_move 87 = .ok (.invokestatic 104, 3) := by decide +kernel
theorem dX5_move_90 : decode cX5_move 90 = .ok (.lstore 9, 2) := by decide +kernel
theorem dX5_move_92 : decode cX5_move 92 = .ok (.aload 6, 2) := by decide +kernel
theorem dX5_move_94 : decode cX5_move 94 = .ok (.iload_n 2, 1) := by decide +kernel
theorem dX5_move_95 : decode cX5_move 95 = .ok (.iload 8, 2) := by decide +kernel
theorem dX5_move_97 : decode cX5_move 97 = .ok (.iadd, 1) := by decide +kernel
theorem dX5_move_98 : decode cX5_move 98 = .ok (.lload 9, 2) := by decide +kernel
theorem dX5_move_100 : decode cX5_move 100 = .ok (.invokestatic 108, 3) := by decide +kernel
theorem dX5_move_103 : decode cX5_move 103 = .ok (.pop2, 1) := by decide +kernel
theorem dX5_move_104 : decode cX5_move 104 = .ok (.iinc 8 1, 3) := by decide +kernel
theorem dX5_move_107 : decode cX5_move 107 = .ok (.goto (-34), 3) := by decide +kernel
theorem dX5_move_110 : decode cX5_move 110 = .ok (.iload 5, 2) := by decide +kernel
theorem dX5_move_112 : decode cX5_move 112 = .ok (.ireturn, 1) := by decide +kernel
theorem dX5_holdNew_0 : decode cX5_holdNew 0 = .ok (.aload_n 0, 1) := by decide +kernel
theorem dX5_holdNew_1 : decode cX5_holdNew 1 = .ok (.getfield 11, 3) := by decide +kernel
theorem dX5_holdNew_4 : decode cX5_holdNew 4 = .ok (.iload_n 1, 1) := by decide +kernel
theorem dX5_holdNew_5 : decode cX5_holdNew 5 = .ok (.aload_n 2, 1) := by decide +kernel
theorem dX5_holdNew_6 : decode cX5_holdNew 6 = .ok (.aastore, 1) := by decide +kernel
theorem dX5_holdNew_7 : decode cX5_holdNew 7 = .ok (.aload_n 0, 1) := by decide +kernel
theorem dX5_holdNew_8 : decode cX5_holdNew 8 = .ok (.dup, 1) := by decide +kernel
theorem dX5_holdNew_9 : decode cX5_holdNew 9 = .ok (.getfield 15, 3) := by decide +kernel
theorem dX5_holdNew_12 : decode cX5_holdNew 12 = .ok (.iconst 1, 1) := by decide +kernel
theorem dX5_holdNew_13 : decode cX5_holdNew 13 = .ok (.iadd, 1) := by decide +kernel
theorem dX5_holdNew_14 : decode cX5_holdNew 14 = .ok (.putfield 15, 3) := by decide +kernel
theorem dX5_holdNew_17 : decode cX5_holdNew 17 = .ok (.aload_n 0, 1) := by decide +kernel
theorem dX5_holdNew_18 : decode cX5_holdNew 18 = .ok (.getfield 15, 3) := by decide +kernel
theorem dX5_holdNew_21 : decode cX5_holdNew 21 = .ok (.ireturn, 1) := by decide +kernel
theorem dX5_itemIn_0 : decode cX5_itemIn 0 = .ok (.aload_n 0, 1) := by decide +kernel
theorem dX5_itemIn_1 : decode cX5_itemIn 1 = .ok (.getfield 11, 3) := by decide +kernel
theorem dX5_itemIn_4 : decode cX5_itemIn 4 = .ok (.iload_n 1, 1) := by decide +kernel
theorem dX5_itemIn_5 : decode cX5_itemIn 5 = .ok (.aaload, 1) := by decide +kernel
theorem dX5_itemIn_6 : decode cX5_itemIn 6 = .ok (.astore_n 2, 1) := by decide +kernel
theorem dX5_itemIn_7 : decode cX5_itemIn 7 = .ok (.aload_n 2, 1) := by decide +kernel
theorem dX5_itemIn_8 : decode cX5_itemIn 8 = .ok (.ifnull 7, 3) := by decide +kernel
theorem dX5_itemIn_11 : decode cX5_itemIn 11 = .ok (.iconst 1, 1) := by decide +kernel
theorem dX5_itemIn_12 : decode cX5_itemIn 12 = .ok (.goto 4, 3) := by decide +kernel
theorem dX5_itemIn_15 : decode cX5_itemIn 15 = .ok (.iconst 0, 1) := by decide +kernel
theorem dX5_itemIn_16 : decode cX5_itemIn 16 = .ok (.invokestatic 87, 3) := by decide +kernel
theorem dX5_itemIn_19 : decode cX5_itemIn 19 = .ok (.aload_n 2, 1) := by decide +kernel
theorem dX5_itemIn_20 : decode cX5_itemIn 20 = .ok (.areturn, 1) := by decide +kernel
theorem dX5_vectorOf_0 : decode cX5_vectorOf 0 = .ok (.aload_n 0, 1) := by decide +kernel
theorem dX5_vectorOf_1 : decode cX5_vectorOf 1 = .ok (.instanceof 30, 3) := by decide +kernel
theorem dX5_vectorOf_4 : decode cX5_vectorOf 4 = .ok (.ifCond .eq 12, 3) := by decide +kernel
theorem dX5_vectorOf_7 : decode cX5_vectorOf 7 = .ok (.aload_n 0, 1) := by decide +kernel
theorem dX5_vectorOf_8 : decode cX5_vectorOf 8 = .ok (.checkcast 30, 3) := by decide +kernel
theorem dX5_vectorOf_11 : decode cX5_vectorOf 11 = .ok (.astore_n 2, 1) := by decide +kernel
theorem dX5_vectorOf_12 : decode cX5_vectorOf 12 = .ok (.aload_n 2, 1) := by decide +kernel
theorem dX5_vectorOf_13 : decode cX5_vectorOf 13 = .ok (.goto 4, 3) := by decide +kernel
theorem dX5_vectorOf_16 : decode cX5_vectorOf 16 = .ok (.aconst_null, 1) := by decide +kernel
theorem dX5_vectorOf_17 : decode cX5_vectorOf 17 = .ok (.astore_n 1, 1) := by decide +kernel
theorem dX5_vectorOf_18 : decode cX5_vectorOf 18 = .ok (.aload_n 1, 1) := by decide +kernel
theorem dX5_vectorOf_19 : decode cX5_vectorOf 19 = .ok (.ifnull 7, 3) := by decide +kernel
theorem dX5_vectorOf_22 : decode cX5_vectorOf 22 = .ok (.iconst 1, 1) := by decide +kernel
theorem dX5_vectorOf_23 : decode cX5_vectorOf 23 = .ok (.goto 4, 3) := by decide +kernel
theorem dX5_vectorOf_26 : decode cX5_vectorOf 26 = .ok (.iconst 0, 1) := by decide +kernel
theorem dX5_vectorOf_27 : decode cX5_vectorOf 27 = .ok (.invokestatic 53, 3) := by decide +kernel
theorem dX5_vectorOf_30 : decode cX5_vectorOf 30 = .ok (.aload_n 1, 1) := by decide +kernel
theorem dX5_vectorOf_31 : decode cX5_vectorOf 31 = .ok (.areturn, 1) := by decide +kernel
theorem dX5_gridIn_0 : decode cX5_gridIn 0 = .ok (.aload_n 0, 1) := by decide +kernel
theorem dX5_gridIn_1 : decode cX5_gridIn 1 = .ok (.getfield 11, 3) := by decide +kernel
theorem dX5_gridIn_4 : decode cX5_gridIn 4 = .ok (.iload_n 1, 1) := by decide +kernel
theorem dX5_gridIn_5 : decode cX5_gridIn 5 = .ok (.aaload, 1) := by decide +kernel
theorem dX5_gridIn_6 : decode cX5_gridIn 6 = .ok (.astore_n 2, 1) := by decide +kernel
theorem dX5_gridIn_7 : decode cX5_gridIn 7 = .ok (.aload_n 2, 1) := by decide +kernel
theorem dX5_gridIn_8 : decode cX5_gridIn 8 = .ok (.instanceof 39, 3) := by decide +kernel
theorem dX5_gridIn_11 : decode cX5_gridIn 11 = .ok (.ifCond .eq 14, 3) := by decide +kernel
theorem dX5_gridIn_14 : decode cX5_gridIn 14 = .ok (.aload_n 2, 1) := by decide +kernel
theorem dX5_gridIn_15 : decode cX5_gridIn 15 = .ok (.checkcast 39, 3) := by decide +kernel
theorem dX5_gridIn_18 : decode cX5_gridIn 18 = .ok (.astore 4, 2) := by decide +kernel
theorem dX5_gridIn_20 : decode cX5_gridIn 20 = .ok (.aload 4, 2) := by decide +kernel
theorem dX5_gridIn_22 : decode cX5_gridIn 22 = .ok (.goto 4, 3) := by decide +kernel
theorem dX5_gridIn_25 : decode cX5_gridIn 25 = .ok (.aconst_null, 1) := by decide +kernel
theorem dX5_gridIn_26 : decode cX5_gridIn 26 = .ok (.astore_n 3, 1) := by decide +kernel
theorem dX5_gridIn_27 : decode cX5_gridIn 27 = .ok (.aload_n 2, 1) := by decide +kernel
theorem dX5_gridIn_28 : decode cX5_gridIn 28 = .ok (.ifnull 7, 3) := by decide +kernel
theorem dX5_gridIn_31 : decode cX5_gridIn 31 = .ok (.aload_n 3, 1) := by decide +kernel
theorem dX5_gridIn_32 : decode cX5_gridIn 32 = .ok (.ifnull 7, 3) := by decide +kernel
theorem dX5_gridIn_35 : decode cX5_gridIn 35 = .ok (.iconst 1, 1) := by decide +kernel
theorem dX5_gridIn_36 : decode cX5_gridIn 36 = .ok (.goto 4, 3) := by decide +kernel
theorem dX5_gridIn_39 : decode cX5_gridIn 39 = .ok (.iconst 0, 1) := by decide +kernel
theorem dX5_gridIn_40 : decode cX5_gridIn 40 = .ok (.invokestatic 53, 3) := by decide +kernel
theorem dX5_gridIn_43 : decode cX5_gridIn 43 = .ok (.aload_n 3, 1) := by decide +kernel
theorem dX5_gridIn_44 : decode cX5_gridIn 44 = .ok (.ifnull 7, 3) := by decide +kernel
theorem dX5_gridIn_47 : decode cX5_gridIn 47 = .ok (.iconst 1, 1) := by decide +kernel
theorem dX5_gridIn_48 : decode cX5_gridIn 48 = .ok (.goto 4, 3) := by decide +kernel
theorem dX5_gridIn_51 : decode cX5_gridIn 51 = .ok (.iconst 0, 1) := by decide +kernel
theorem dX5_gridIn_52 : decode cX5_gridIn 52 = .ok (.invokestatic 87, 3) := by decide +kernel
theorem dX5_gridIn_55 : decode cX5_gridIn 55 = .ok (.aload_n 3, 1) := by decide +kernel
theorem dX5_gridIn_56 : decode cX5_gridIn 56 = .ok (.areturn, 1) := by decide +kernel
theorem dX5_recordIn_0 : decode cX5_recordIn 0 = .ok (.aload_n 0, 1) := by decide +kernel
theorem dX5_recordIn_1 : decode cX5_recordIn 1 = .ok (.iload_n 1, 1) := by decide +kernel
theorem dX5_recordIn_2 : decode cX5_recordIn 2 = .ok (.invokevirtual 134, 3) := by decide +kernel
theorem dX5_recordIn_5 : decode cX5_recordIn 5 = .ok (.astore_n 2, 1) := by decide +kernel
theorem dX5_recordIn_6 : decode cX5_recordIn 6 = .ok (.aload_n 2, 1) := by decide +kernel
theorem dX5_recordIn_7 : decode cX5_recordIn 7 = .ok (.ifnull 7, 3) := by decide +kernel
theorem dX5_recordIn_10 : decode cX5_recordIn 10 = .ok (.iconst 1, 1) := by decide +kernel
theorem dX5_recordIn_11 : decode cX5_recordIn 11 = .ok (.goto 4, 3) := by decide +kernel
theorem dX5_recordIn_14 : decode cX5_recordIn 14 = .ok (.iconst 0, 1) := by decide +kernel
theorem dX5_recordIn_15 : decode cX5_recordIn 15 = .ok (.invokestatic 87, 3) := by decide +kernel
theorem dX5_recordIn_18 : decode cX5_recordIn 18 = .ok (.aload_n 2, 1) := by decide +kernel
theorem dX5_recordIn_19 : decode cX5_recordIn 19 = .ok (.areturn, 1) := by decide +kernel
theorem dX5_recordOrNone_0 : decode cX5_recordOrNone 0 = .ok (.aload_n 0, 1) := by decide +kernel
theorem dX5_recordOrNone_1 : decode cX5_recordOrNone 1 = .ok (.getfield 11, 3) := by decide +kernel
theorem dX5_recordOrNone_4 : decode cX5_recordOrNone 4 = .ok (.iload_n 1, 1) := by decide +kernel
theorem dX5_recordOrNone_5 : decode cX5_recordOrNone 5 = .ok (.aaload, 1) := by decide +kernel
theorem dX5_recordOrNone_6 : decode cX5_recordOrNone 6 = .ok (.astore_n 2, 1) := by decide +kernel
theorem dX5_recordOrNone_7 : decode cX5_recordOrNone 7 = .ok (.aload_n 2, 1) := by decide +kernel
theorem dX5_recordOrNone_8 : decode cX5_recordOrNone 8 = .ok (.instanceof 42, 3) := by decide +kernel
theorem dX5_recordOrNone_11 : decode cX5_recordOrNone 11 = .ok (.ifCond .eq 14, 3) := by decide +kernel
theorem dX5_recordOrNone_14 : decode cX5_recordOrNone 14 = .ok (.aload_n 2, 1) := by decide +kernel
theorem dX5_recordOrNone_15 : decode cX5_recordOrNone 15 = .ok (.checkcast 42, 3) := by decide +kernel
theorem dX5_recordOrNone_18 : decode cX5_recordOrNone 18 = .ok (.astore 4, 2) := by decide +kernel
theorem dX5_recordOrNone_20 : decode cX5_recordOrNone 20 = .ok (.aload 4, 2) := by decide +kernel
theorem dX5_recordOrNone_22 : decode cX5_recordOrNone 22 = .ok (.goto 4, 3) := by decide +kernel
theorem dX5_recordOrNone_25 : decode cX5_recordOrNone 25 = .ok (.aconst_null, 1) := by decide +kernel
theorem dX5_recordOrNone_26 : decode cX5_recordOrNone 26 = .ok (.astore_n 3, 1) := by decide +kernel
theorem dX5_recordOrNone_27 : decode cX5_recordOrNone 27 = .ok (.aload_n 2, 1) := by decide +kernel
theorem dX5_recordOrNone_28 : decode cX5_recordOrNone 28 = .ok (.ifnull 7, 3) := by decide +kernel
theorem dX5_recordOrNone_31 : decode cX5_recordOrNone 31 = .ok (.aload_n 3, 1) := by decide +kernel
theorem dX5_recordOrNone_32 : decode cX5_recordOrNone 32 = .ok (.ifnull 7, 3) := by decide +kernel
theorem dX5_recordOrNone_35 : decode cX5_recordOrNone 35 = .ok (.iconst 1, 1) := by decide +kernel
theorem dX5_recordOrNone_36 : decode cX5_recordOrNone 36 = .ok (.goto 4, 3) := by decide +kernel
theorem dX5_recordOrNone_39 : decode cX5_recordOrNone 39 = .ok (.iconst 0, 1) := by decide +kernel
theorem dX5_recordOrNone_40 : decode cX5_recordOrNone 40 = .ok (.invokestatic 53, 3) := by decide +kernel
theorem dX5_recordOrNone_43 : decode cX5_recordOrNone 43 = .ok (.aload_n 3, 1) := by decide +kernel
theorem dX5_recordOrNone_44 : decode cX5_recordOrNone 44 = .ok (.areturn, 1) := by decide +kernel
theorem dX5_loseRow_0 : decode cX5_loseRow 0 = .ok (.iload_n 1, 1) := by decide +kernel
theorem dX5_loseRow_1 : decode cX5_loseRow 1 = .ok (.aload_n 0, 1) := by decide +kernel
theorem dX5_loseRow_2 : decode cX5_loseRow 2 = .ok (.getfield 94, 3) := by decide +kernel
theorem dX5_loseRow_5 : decode cX5_loseRow 5 = .ok (.arraylength, 1) := by decide +kernel
theorem dX5_loseRow_6 : decode cX5_loseRow 6 = .ok (.invokestatic 116, 3) := by decide +kernel
theorem dX5_loseRow_9 : decode cX5_loseRow 9 = .ok (.aload_n 0, 1) := by decide +kernel
theorem dX5_loseRow_10 : decode cX5_loseRow 10 = .ok (.getfield 94, 3) := by decide +kernel
theorem dX5_loseRow_13 : decode cX5_loseRow 13 = .ok (.iload_n 1, 1) := by decide +kernel
theorem dX5_loseRow_14 : decode cX5_loseRow 14 = .ok (.aaload, 1) := by decide +kernel
theorem dX5_loseRow_15 : decode cX5_loseRow 15 = .ok (.ifnull 7, 3) := by decide +kernel
theorem dX5_loseRow_18 : decode cX5_loseRow 18 = .ok (.iconst 1, 1) := by decide +kernel
theorem dX5_loseRow_19 : decode cX5_loseRow 19 = .ok (.goto 4, 3) := by decide +kernel
theorem dX5_loseRow_22 : decode cX5_loseRow 22 = .ok (.iconst 0, 1) := by decide +kernel
theorem dX5_loseRow_23 : decode cX5_loseRow 23 = .ok (.invokestatic 87, 3) := by decide +kernel
theorem dX5_loseRow_26 : decode cX5_loseRow 26 = .ok (.aload_n 0, 1) := by decide +kernel
theorem dX5_loseRow_27 : decode cX5_loseRow 27 = .ok (.getfield 94, 3) := by decide +kernel
theorem dX5_loseRow_30 : decode cX5_loseRow 30 = .ok (.iload_n 1, 1) := by decide +kernel
theorem dX5_loseRow_31 : decode cX5_loseRow 31 = .ok (.aaload, 1) := by decide +kernel
theorem dX5_loseRow_32 : decode cX5_loseRow 32 = .ok (.arraylength, 1) := by decide +kernel
theorem dX5_loseRow_33 : decode cX5_loseRow 33 = .ok (.istore_n 2, 1) := by decide +kernel
theorem dX5_loseRow_34 : decode cX5_loseRow 34 = .ok (.aload_n 0, 1) := by decide +kernel
theorem dX5_loseRow_35 : decode cX5_loseRow 35 = .ok (.getfield 94, 3) := by decide +kernel
theorem dX5_loseRow_38 : decode cX5_loseRow 38 = .ok (.iload_n 1, 1) := by decide +kernel
theorem dX5_loseRow_39 : decode cX5_loseRow 39 = .ok (.aconst_null, 1) := by decide +kernel
theorem dX5_loseRow_40 : decode cX5_loseRow 40 = .ok (.aastore, 1) := by decide +kernel
theorem dX5_loseRow_41 : decode cX5_loseRow 41 = .ok (.iload_n 2, 1) := by decide +kernel
theorem dX5_loseRow_42 : decode cX5_loseRow 42 = .ok (.ireturn, 1) := by decide +kernel
theorem dX5_loseStorage_0 : decode cX5_loseStorage 0 = .ok (.aload_n 0, 1) := by decide +kernel
theorem dX5_loseStorage_1 : decode cX5_loseStorage 1 = .ok (.invokevirtual 83, 3) := by decide +kernel
theorem dX5_loseStorage_4 : decode cX5_loseStorage 4 = .ok (.ifCond .ne 7, 3) := by decide +kernel
theorem dX5_loseStorage_7 : decode cX5_loseStorage 7 = .ok (.iconst 1, 1) := by decide +kernel
theorem dX5_loseStorage_8 : decode cX5_loseStorage 8 = .ok (.goto 4, 3) := by decide +kernel
theorem dX5_loseStorage_11 : decode cX5_loseStorage 11 = .ok (.iconst 0, 1) := by decide +kernel
theorem dX5_loseStorage_12 : decode cX5_loseStorage 12 = .ok (.invokestatic 87, 3) := by decide +kernel
theorem dX5_loseStorage_15 : decode cX5_loseStorage 15 = .ok (.aload_n 0, 1) := by decide +kernel
theorem dX5_loseStorage_16 : decode cX5_loseStorage 16 = .ok (.invokevirtual 98, 3) := by decide +kernel
theorem dX5_loseStorage_19 : decode cX5_loseStorage 19 = .ok (.istore_n 1, 1) := by decide +kernel
theorem dX5_loseStorage_20 : decode cX5_loseStorage 20 = .ok (.aload_n 0, 1) := by decide +kernel
theorem dX5_loseStorage_21 : decode cX5_loseStorage 21 = .ok (.invokevirtual 153, 3) := by decide +kernel
theorem dX5_loseStorage_24 : decode cX5_loseStorage 24 = .ok (.iload_n 1, 1) := by decide +kernel
theorem dX5_loseStorage_25 : decode cX5_loseStorage 25 = .ok (.ireturn, 1) := by decide +kernel
theorem dX5_takeElement_0 : decode cX5_takeElement 0 = .ok (.aload_n 0, 1) := by decide +kernel
theorem dX5_takeElement_1 : decode cX5_takeElement 1 = .ok (.iload_n 1, 1) := by decide +kernel
theorem dX5_takeElement_2 : decode cX5_takeElement 2 = .ok (.invokestatic 127, 3) := by decide +kernel
theorem dX5_takeElement_5 : decode cX5_takeElement 5 = .ok (.istore_n 2, 1) := by decide +kernel
theorem dX5_takeElement_6 : decode cX5_takeElement 6 = .ok (.aload_n 0, 1) := by decide +kernel
theorem dX5_takeElement_7 : decode cX5_takeElement 7 = .ok (.invokevirtual 49, 3) := by decide +kernel
theorem dX5_takeElement_10 : decode cX5_takeElement 10 = .ok (.getfield 156, 3) := by decide +kernel
theorem dX5_takeElement_13 : decode cX5_takeElement 13 = .ok (.iload_n 2, 1) := by decide +kernel
theorem dX5_takeElement_14 : decode cX5_takeElement 14 = .ok (.laload, 1) := by decide +kernel
theorem dX5_takeElement_15 : decode cX5_takeElement 15 = .ok (.lreturn, 1) := by decide +kernel
theorem dX5_putElement_0 : decode cX5_putElement 0 = .ok (.aload_n 0, 1) := by decide +kernel
theorem dX5_putElement_1 : decode cX5_putElement 1 = .ok (.iload_n 1, 1) := by decide +kernel
theorem dX5_putElement_2 : decode cX5_putElement 2 = .ok (.invokestatic 127, 3) := by decide +kernel
theorem dX5_putElement_5 : decode cX5_putElement 5 = .ok (.istore 4, 2) := by decide +kernel
theorem dX5_putElement_7 : decode cX5_putElement 7 = .ok (.aload_n 0, 1) := by decide +kernel
theorem dX5_putElement_8 : decode cX5_putElement 8 = .ok (.invokevirtual 49, 3) := by decide +kernel
theorem dX5_putElement_11 : decode cX5_putElement 11 = .ok (.astore 5, 2) := by decide +kernel
theorem dX5_putElement_13 : decode cX5_putElement 13 = .ok (.aload 5, 2) := by decide +kernel
theorem dX5_putElement_15 : decode cX5_putElement 15 = .ok (.getfield 156, 3) := by decide +kernel
theorem dX5_putElement_18 : decode cX5_putElement 18 = .ok (.iload 4, 2) := by decide +kernel
theorem dX5_putElement_20 : decode cX5_putElement 20 = .ok (.aload 5, 2) := by decide +kernel
theorem dX5_putElement_22 : decode cX5_putElement 22 = .ok (.getfield 160, 3) := by decide +kernel
theorem dX5_putElement_25 : decode cX5_putElement 25 = .ok (.lload_n 2, 1) := by decide +kernel
theorem dX5_putElement_26 : decode cX5_putElement 26 = .ok (.invokestatic 162, 3) := by decide +kernel
theorem dX5_putElement_29 : decode cX5_putElement 29 = .ok (.lastore, 1) := by decide +kernel
theorem dX5_putElement_30 : decode cX5_putElement 30 = .ok (.aload 5, 2) := by decide +kernel
theorem dX5_putElement_32 : decode cX5_putElement 32 = .ok (.getfield 156, 3) := by decide +kernel
theorem dX5_putElement_35 : decode cX5_putElement 35 = .ok (.iload 4, 2) := by decide +kernel
theorem dX5_putElement_37 : decode cX5_putElement 37 = .ok (.laload, 1) := by decide +kernel
theorem dX5_putElement_38 : decode cX5_putElement 38 = .ok (.lreturn, 1) := by decide +kernel
theorem dX5_placeOf_0 : decode cX5_placeOf 0 = .ok (.aload_n 0, 1) := by decide +kernel
theorem dX5_placeOf_1 : decode cX5_placeOf 1 = .ok (.invokevirtual 49, 3) := by decide +kernel
theorem dX5_placeOf_4 : decode cX5_placeOf 4 = .ok (.astore_n 2, 1) := by decide +kernel
theorem dX5_placeOf_5 : decode cX5_placeOf 5 = .ok (.aload_n 0, 1) := by decide +kernel
theorem dX5_placeOf_6 : decode cX5_placeOf 6 = .ok (.invokevirtual 63, 3) := by decide +kernel
theorem dX5_placeOf_9 : decode cX5_placeOf 9 = .ok (.iload_n 1, 1) := by decide +kernel
theorem dX5_placeOf_10 : decode cX5_placeOf 10 = .ok (.iadd, 1) := by decide +kernel
theorem dX5_placeOf_11 : decode cX5_placeOf 11 = .ok (.istore_n 3, 1) := by decide +kernel
theorem dX5_placeOf_12 : decode cX5_placeOf 12 = .ok (.aload_n 2, 1) := by decide +kernel
theorem dX5_placeOf_13 : decode cX5_placeOf 13 = .ok (.invokevirtual 83, 3) := by decide +kernel
theorem dX5_placeOf_16 : decode cX5_placeOf 16 = .ok (.ifCond .ne 7, 3) := by decide +kernel
theorem dX5_placeOf_19 : decode cX5_placeOf 19 = .ok (.iconst 1, 1) := by decide +kernel
theorem dX5_placeOf_20 : decode cX5_placeOf 20 = .ok (.goto 4, 3) := by decide +kernel
theorem dX5_placeOf_23 : decode cX5_placeOf 23 = .ok (.iconst 0, 1) := by decide +kernel
theorem dX5_placeOf_24 : decode cX5_placeOf 24 = .ok (.invokestatic 87, 3) := by decide +kernel
theorem dX5_placeOf_27 : decode cX5_placeOf 27 = .ok (.iload_n 3, 1) := by decide +kernel
theorem dX5_placeOf_28 : decode cX5_placeOf 28 = .ok (.aload_n 2, 1) := by decide +kernel
theorem dX5_placeOf_29 : decode cX5_placeOf 29 = .ok (.invokevirtual 98, 3) := by decide +kernel
theorem dX5_placeOf_32 : decode cX5_placeOf 32 = .ok (.invokestatic 116, 3) := by decide +kernel
theorem dX5_placeOf_35 : decode cX5_placeOf 35 = .ok (.iload_n 3, 1) := by decide +kernel
theorem dX5_placeOf_36 : decode cX5_placeOf 36 = .ok (.ireturn, 1) := by decide +kernel
theorem dX5_fitted_0 : decode cX5_fitted 0 = .ok (.iload_n 0, 1) := by decide +kernel
theorem dX5_fitted_1 : decode cX5_fitted 1 = .ok (.tableswitch 86 0 7 #[47, 59, 64, 69, 74, 86, 78, 82], 47) := by decide +kernel
theorem dX5_fitted_48 : decode cX5_fitted 48 = .ok (.lload_n 1, 1) := by decide +kernel
theorem dX5_fitted_49 : decode cX5_fitted 49 = .ok (.lconst 0, 1) := by decide +kernel
theorem dX5_fitted_50 : decode cX5_fitted 50 = .ok (.lcmp, 1) := by decide +kernel
theorem dX5_fitted_51 : decode cX5_fitted 51 = .ok (.ifCond .eq 7, 3) := by decide +kernel
theorem dX5_fitted_54 : decode cX5_fitted 54 = .ok (.lconst 1, 1) := by decide +kernel
theorem dX5_fitted_55 : decode cX5_fitted 55 = .ok (.goto 4, 3) := by decide +kernel
theorem dX5_fitted_58 : decode cX5_fitted 58 = .ok (.lconst 0, 1) := by decide +kernel
theorem dX5_fitted_59 : decode cX5_fitted 59 = .ok (.lreturn, 1) := by decide +kernel
theorem dX5_fitted_60 : decode cX5_fitted 60 = .ok (.lload_n 1, 1) := by decide +kernel
theorem dX5_fitted_61 : decode cX5_fitted 61 = .ok (.l2i, 1) := by decide +kernel
theorem dX5_fitted_62 : decode cX5_fitted 62 = .ok (.i2b, 1) := by decide +kernel
theorem dX5_fitted_63 : decode cX5_fitted 63 = .ok (.i2l, 1) := by decide +kernel
theorem dX5_fitted_64 : decode cX5_fitted 64 = .ok (.lreturn, 1) := by decide +kernel
theorem dX5_fitted_65 : decode cX5_fitted 65 = .ok (.lload_n 1, 1) := by decide +kernel
theorem dX5_fitted_66 : decode cX5_fitted 66 = .ok (.l2i, 1) := by decide +kernel
theorem dX5_fitted_67 : decode cX5_fitted 67 = .ok (.i2s, 1) := by decide +kernel
theorem dX5_fitted_68 : decode cX5_fitted 68 = .ok (.i2l, 1) := by decide +kernel
theorem dX5_fitted_69 : decode cX5_fitted 69 = .ok (.lreturn, 1) := by decide +kernel
theorem dX5_fitted_70 : decode cX5_fitted 70 = .ok (.lload_n 1, 1) := by decide +kernel
theorem dX5_fitted_71 : decode cX5_fitted 71 = .ok (.l2i, 1) := by decide +kernel
theorem dX5_fitted_72 : decode cX5_fitted 72 = .ok (.i2c, 1) := by decide +kernel
theorem dX5_fitted_73 : decode cX5_fitted 73 = .ok (.i2l, 1) := by decide +kernel
theorem dX5_fitted_74 : decode cX5_fitted 74 = .ok (.lreturn, 1) := by decide +kernel
theorem dX5_fitted_75 : decode cX5_fitted 75 = .ok (.lload_n 1, 1) := by decide +kernel
theorem dX5_fitted_76 : decode cX5_fitted 76 = .ok (.l2i, 1) := by decide +kernel
theorem dX5_fitted_77 : decode cX5_fitted 77 = .ok (.i2l, 1) := by decide +kernel
theorem dX5_fitted_78 : decode cX5_fitted 78 = .ok (.lreturn, 1) := by decide +kernel
theorem dX5_fitted_79 : decode cX5_fitted 79 = .ok (.lload_n 1, 1) := by decide +kernel
theorem dX5_fitted_80 : decode cX5_fitted 80 = .ok (.l2f, 1) := by decide +kernel
theorem dX5_fitted_81 : decode cX5_fitted 81 = .ok (.f2l, 1) := by decide +kernel
theorem dX5_fitted_82 : decode cX5_fitted 82 = .ok (.lreturn, 1) := by decide +kernel
theorem dX5_fitted_83 : decode cX5_fitted 83 = .ok (.lload_n 1, 1) := by decide +kernel
theorem dX5_fitted_84 : decode cX5_fitted 84 = .ok (.l2d, 1) := by decide +kernel
theorem dX5_fitted_85 : decode cX5_fitted 85 = .ok (.d2l, 1) := by decide +kernel
theorem dX5_fitted_86 : decode cX5_fitted 86 = .ok (.lreturn, 1) := by decide +kernel
theorem dX5_fitted_87 : decode cX5_fitted 87 = .ok (.lload_n 1, 1) := by decide +kernel
