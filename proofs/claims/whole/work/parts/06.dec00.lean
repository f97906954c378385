theorem dX0_init_0 : decode cX0_init 0 = .ok (.aload_n 0, 1) := by decide +kernel
theorem dX0_init_1 : decode cX0_init 1 = .ok (.invokespecial 3, 3) := by decide +kernel
theorem dX0_init_4 : decode cX0_init 4 = .ok (.aload_n 0, 1) := by decide +kernel
theorem dX0_init_5 : decode cX0_init 5 = .ok (.iload_n 1, 1) := by decide +kernel
theorem dX0_init_6 : decode cX0_init 6 = .ok (.iload_n 2, 1) := by decide +kernel
theorem dX0_init_7 : decode cX0_init 7 = .ok (.multianewarray 9 2, 4) := by decide +kernel
theorem dX0_init_11 : decode cX0_init 11 = .ok (.putfield 11, 3) := by decide +kernel
theorem dX0_init_14 : decode cX0_init 14 = .ok (.return_, 1) := by decide +kernel
theorem dX0_sort_0 : decode cX0_sort 0 = .ok (.bipush 9, 2) := by decide +kernel
theorem dX0_sort_2 : decode cX0_sort 2 = .ok (.ireturn, 1) := by decide +kernel
theorem dX1_init_0 : decode cX1_init 0 = .ok (.aload_n 0, 1) := by decide +kernel
theorem dX1_init_1 : decode cX1_init 1 = .ok (.invokespecial 1, 3) := by decide +kernel
theorem dX1_init_4 : decode cX1_init 4 = .ok (.return_, 1) := by decide +kernel
theorem dX1_ground_0 : decode cX1_ground 0 = .ok (.aconst_null, 1) := by decide +kernel
theorem dX1_ground_1 : decode cX1_ground 1 = .ok (.areturn, 1) := by decide +kernel
theorem dX1_shift_0 : decode cX1_shift 0 = .ok (.iconst 0, 1) := by decide +kernel
theorem dX1_shift_1 : decode cX1_shift 1 = .ok (.ireturn, 1) := by decide +kernel
theorem dX1_windows_0 : decode cX1_windows 0 = .ok (.iconst 0, 1) := by decide +kernel
theorem dX1_windows_1 : decode cX1_windows 1 = .ok (.ireturn, 1) := by decide +kernel
theorem dX2_init_0 : decode cX2_init 0 = .ok (.aload_n 0, 1) := by decide +kernel
theorem dX2_init_1 : decode cX2_init 1 = .ok (.invokespecial 3, 3) := by decide +kernel
theorem dX2_init_4 : decode cX2_init 4 = .ok (.aload_n 0, 1) := by decide +kernel
theorem dX2_init_5 : decode cX2_init 5 = .ok (.lconst 0, 1) := by decide +kernel
theorem dX2_init_6 : decode cX2_init 6 = .ok (.putfield 9, 3) := by decide +kernel
theorem dX2_init_9 : decode cX2_init 9 = .ok (.aload_n 0, 1) := by decide +kernel
theorem dX2_init_10 : decode cX2_init 10 = .ok (.aconst_null, 1) := by decide +kernel
theorem dX2_init_11 : decode cX2_init 11 = .ok (.putfield 15, 3) := by decide +kernel
theorem dX2_init_14 : decode cX2_init 14 = .ok (.return_, 1) := by decide +kernel
theorem dX2_sort_0 : decode cX2_sort 0 = .ok (.bipush 10, 2) := by decide +kernel
theorem dX2_sort_2 : decode cX2_sort 2 = .ok (.ireturn, 1) := by decide +kernel
theorem dX3_init_0 : decode cX3_init 0 = .ok (.aload_n 0, 1) := by decide +kernel
theorem dX3_init_1 : decode cX3_init 1 = .ok (.invokespecial 3, 3) := by decide +kernel
theorem dX3_init_4 : decode cX3_init 4 = .ok (.aload_n 0, 1) := by decide +kernel
theorem dX3_init_5 : decode cX3_init 5 = .ok (.iload_n 1, 1) := by decide +kernel
theorem dX3_init_6 : decode cX3_init 6 = .ok (.putfield 9, 3) := by decide +kernel
theorem dX3_init_9 : decode cX3_init 9 = .ok (.iload_n 1, 1) := by decide +kernel
theorem dX3_init_10 : decode cX3_init 10 = .ok (.bipush 8, 2) := by decide +kernel
theorem dX3_init_12 : decode cX3_init 12 = .ok (.if_icmp .ne 14, 3) := by decide +kernel
theorem dX3_init_15 : decode cX3_init 15 = .ok (.aload_n 0, 1) := by decide +kernel
theorem dX3_init_16 : decode cX3_init 16 = .ok (.iload_n 2, 1) := by decide +kernel
theorem dX3_init_17 : decode cX3_init 17 = .ok (.anewarray 4, 3) := by decide +kernel
theorem dX3_init_20 : decode cX3_init 20 = .ok (.putfield 15, 3) := by decide +kernel
theorem dX3_init_23 : decode cX3_init 23 = .ok (.goto 10, 3) := by decide +kernel
theorem dX3_init_26 : decode cX3_init 26 = .ok (.aload_n 0, 1) := by decide +kernel
theorem dX3_init_27 : decode cX3_init 27 = .ok (.iload_n 2, 1) := by decide +kernel
theorem dX3_init_28 : decode cX3_init 28 = .ok (.newarray .long, 2) := by decide +kernel
theorem dX3_init_30 : decode cX3_init 30 = .ok (.putfield 19, 3) := by decide +kernel
theorem dX3_init_33 : decode cX3_init 33 = .ok (.return_, 1) := by decide +kernel
theorem dX3_sort_0 : decode cX3_sort 0 = .ok (.aload_n 0, 1) := by decide +kernel
theorem dX3_sort_1 : decode cX3_sort 1 = .ok (.getfield 9, 3) := by decide +kernel
theorem dX3_sort_4 : decode cX3_sort 4 = .ok (.ireturn, 1) := by decide +kernel
theorem dX3_ground_0 : decode cX3_ground 0 = .ok (.aload_n 0, 1) := by decide +kernel
theorem dX3_ground_1 : decode cX3_ground 1 = .ok (.areturn, 1) := by decide +kernel
theorem dX3_isLost_0 : decode cX3_isLost 0 = .ok (.aload_n 0, 1) := by decide +kernel
theorem dX3_isLost_1 : decode cX3_isLost 1 = .ok (.getfield 19, 3) := by decide +kernel
theorem dX3_isLost_4 : decode cX3_isLost 4 = .ok (.ifnonnull 14, 3) := by decide +kernel
theorem dX3_isLost_7 : decode cX3_isLost 7 = .ok (.aload_n 0, 1) := by decide +kernel
theorem dX3_isLost_8 : decode cX3_isLost 8 = .ok (.getfield 15, 3) := by decide +kernel
theorem dX3_isLost_11 : decode cX3_isLost 11 = .ok (.ifnonnull 7, 3) := by decide +kernel
theorem dX3_isLost_14 : decode cX3_isLost 14 = .ok (.iconst 1, 1) := by decide +kernel
theorem dX3_isLost_15 : decode cX3_isLost 15 = .ok (.goto 4, 3) := by decide +kernel
theorem dX3_isLost_18 : decode cX3_isLost 18 = .ok (.iconst 0, 1) := by decide +kernel
theorem dX3_isLost_19 : decode cX3_isLost 19 = .ok (.ireturn, 1) := by decide +kernel
theorem dX3_length_0 : decode cX3_length 0 = .ok (.aload_n 0, 1) := by decide +kernel
theorem dX3_length_1 : decode cX3_length 1 = .ok (.getfield 19, 3) := by decide +kernel
theorem dX3_length_4 : decode cX3_length 4 = .ok (.ifnull 9, 3) := by decide +kernel
theorem dX3_length_7 : decode cX3_length 7 = .ok (.aload_n 0, 1) := by decide +kernel
theorem dX3_length_8 : decode cX3_length 8 = .ok (.getfield 19, 3) := by decide +kernel
theorem dX3_length_11 : decode cX3_length 11 = .ok (.arraylength, 1) := by decide +kernel
theorem dX3_length_12 : decode cX3_length 12 = .ok (.ireturn, 1) := by decide +kernel
theorem dX3_length_13 : decode cX3_length 13 = .ok (.aload_n 0, 1) := by decide +kernel
theorem dX3_length_14 : decode cX3_length 14 = .ok (.getfield 15, 3) := by decide +kernel
theorem dX3_length_17 : decode cX3_length 17 = .ok (.ifnull 11, 3) := by decide +kernel
theorem dX3_length_20 : decode cX3_length 20 = .ok (.aload_n 0, 1) := by decide +kernel
theorem dX3_length_21 : decode cX3_length 21 = .ok (.getfield 15, 3) := by decide +kernel
theorem dX3_length_24 : decode cX3_length 24 = .ok (.arraylength, 1) := by decide +kernel
theorem dX3_length_25 : decode cX3_length 25 = .ok (.goto 4, 3) := by decide +kernel
theorem dX3_length_28 : decode cX3_length 28 = .ok (.iconst 0, 1) := by decide +kernel
theorem dX3_length_29 : decode cX3_length 29 = .ok (.ireturn, 1) := by decide +kernel
theorem dX3_dropStorage_0 : decode cX3_dropStorage 0 = .ok (.aload_n 0, 1) := by decide +kernel
theorem dX3_dropStorage_1 : decode cX3_dropStorage 1 = .ok (.aconst_null, 1) := by decide +kernel
theorem dX3_dropStorage_2 : decode cX3_dropStorage 2 = .ok (.putfield 19, 3) := by decide +kernel
theorem dX3_dropStorage_5 : decode cX3_dropStorage 5 = .ok (.aload_n 0, 1) := by decide +kernel
theorem dX3_dropStorage_6 : decode cX3_dropStorage 6 = .ok (.aconst_null, 1) := by decide +kernel
theorem dX3_dropStorage_7 : decode cX3_dropStorage 7 = .ok (.putfield 15, 3) := by decide +kernel
theorem dX3_dropStorage_10 : decode cX3_dropStorage 10 = .ok (.return_, 1) := by decide +kernel
theorem dX3_changeLength_0 : decode cX3_changeLength 0 = .ok (.aload_n 0, 1) := by decide +kernel
theorem dX3_changeLength_1 : decode cX3_changeLength 1 = .ok (.invokevirtual 23, 3) := by decide +kernel
theorem dX3_changeLength_4 : decode cX3_changeLength 4 = .ok (.iload_n 1, 1) := by decide +kernel
theorem dX3_changeLength_5 : decode cX3_changeLength 5 = .ok (.invokestatic 27, 3) := by decide +kernel
theorem dX3_changeLength_8 : decode cX3_changeLength 8 = .ok (.istore_n 2, 1) := by decide +kernel
theorem dX3_changeLength_9 : decode cX3_changeLength 9 = .ok (.aload_n 0, 1) := by decide +kernel
theorem dX3_changeLength_10 : decode cX3_changeLength 10 = .ok (.getfield 19, 3) := by decide +kernel
theorem dX3_changeLength_13 : decode cX3_changeLength 13 = .ok (.ifnull 18, 3) := by decide +kernel
theorem dX3_changeLength_16 : decode cX3_changeLength 16 = .ok (.aload_n 0, 1) := by decide +kernel
theorem dX3_changeLength_17 : decode cX3_changeLength 17 = .ok (.aload_n 0, 1) := by decide +kernel
theorem dX3_changeLength_18 : decode cX3_changeLength 18 = .ok (.getfield 19, 3) := by decide +kernel
theorem dX3_changeLength_21 : decode cX3_changeLength 21 = .ok (.iload_n 1, 1) := by decide +kernel
theorem dX3_changeLength_22 : decode cX3_changeLength 22 = .ok (.invokestatic 33, 3) := by decide +kernel
theorem dX3_changeLength_25 : decode cX3_changeLength 25 = .ok (.putfield 19, 3) := by decide +kernel
theorem dX3_changeLength_28 : decode cX3_changeLength 28 = .ok (.goto 20, 3) := by decide +kernel
theorem dX3_changeLength_31 : decode cX3_changeLength 31 = .ok (.aload_n 0, 1) := by decide +kernel
theorem dX3_changeLength_32 : decode cX3_changeLength 32 = .ok (.getfield 15, 3) := by decide +kernel
theorem dX3_changeLength_35 : decode cX3_changeLength 35 = .ok (.ifnull 13, 3) := by decide +kernel
theorem dX3_changeLength_38 : decode cX3_changeLength 38 = .ok (.aload_n 0, 1) := by decide +kernel
theorem dX3_changeLength_39 : decode cX3_changeLength 39 = .ok (.aload_n 0, 1) := by decide +kernel
theorem dX3_changeLength_40 : decode cX3_changeLength 40 = .ok (.iload_n 2, 1) := by decide +kernel
theorem dX3_changeLength_41 : decode cX3_changeLength 41 = .ok (.iload_n 1, 1) := by decide +kernel
theorem dX3_changeLength_42 : decode cX3_changeLength 42 = .ok (.invokevirtual 39, 3) := by decide +kernel
theorem dX3_changeLength_45 : decode cX3_changeLength 45 = .ok (.putfield 15, 3) := by decide +kernel
theorem dX3_changeLength_48 : decode cX3_changeLength 48 = .ok (.iload_n 2, 1) := by decide +kernel
theorem dX3_changeLength_49 : decode cX3_changeLength 49 = .ok (.ireturn, 1) := by decide +kernel
theorem dX3_firstItems_0 : decode cX3_firstItems 0 = .ok (.iload_n 2, 1) := by decide +kernel
theorem dX3_firstItems_1 : decode cX3_firstItems 1 = .ok (.anewarray 4, 3) := by decide +kernel
theorem dX3_firstItems_4 : decode cX3_firstItems 4 = .ok (.astore_n 3, 1) := by decide +kernel
theorem dX3_firstItems_5 : decode cX3_firstItems 5 = .ok (.iconst 0, 1) := by decide +kernel
theorem dX3_firstItems_6 : decode cX3_firstItems 6 = .ok (.istore 4, 2) := by decide +kernel
theorem dX3_firstItems_8 : decode cX3_firstItems 8 = .ok (.iload 4, 2) := by decide +kernel
theorem dX3_firstItems_10 : decode cX3_firstItems 10 = .ok (.iload_n 1, 1) := by decide +kernel
theorem dX3_firstItems_11 : decode cX3_firstItems 11 = .ok (.if_icmp .ge 20, 3) := by decide +kernel
theorem dX3_firstItems_14 : decode cX3_firstItems 14 = .ok (.aload_n 3, 1) := by decide +kernel
theorem dX3_firstItems_15 : decode cX3_firstItems 15 = .ok (.iload 4, 2) := by decide +kernel
theorem dX3_firstItems_17 : decode cX3_firstItems 17 = .ok (.aload_n 0, 1) := by decide +kernel
theorem dX3_firstItems_18 : decode cX3_firstItems 18 = .ok (.getfield 15, 3) := by decide +kernel
theorem dX3_firstItems_21 : decode cX3_firstItems 21 = .ok (.iload 4, 2) := by decide +kernel
theorem dX3_firstItems_23 : decode cX3_firstItems 23 = .ok (.aaload, 1) := by decide +kernel
theorem dX3_firstItems_24 : decode cX3_firstItems 24 = .ok (.aastore, 1) := by decide +kernel
theorem dX3_firstItems_25 : decode cX3_firstItems 25 = .ok (.iinc 4 1, 3) := by decide +kernel
theorem dX3_firstItems_28 : decode cX3_firstItems 28 = .ok (.goto (-20), 3) := by decide +kernel
theorem dX3_firstItems_31 : decode cX3_firstItems 31 = .ok (.aload_n 3, 1) := by decide +kernel
theorem dX3_firstItems_32 : decode cX3_firstItems 32 = .ok (.areturn, 1) := by decide +kernel
theorem dX4_init_0 : decode cX4_init 0 = .ok (.aload_n 0, 1) := by decide +kernel
theorem dX4_init_1 : decode cX4_init 1 = .ok (.invokespecial 1, 3) := by decide +kernel
theorem dX4_init_4 : decode cX4_init 4 = .ok (.aload_n 0, 1) := by decide +kernel
theorem dX4_init_5 : decode cX4_init 5 = .ok (.aload_n 1, 1) := by decide +kernel
theorem dX4_init_6 : decode cX4_init 6 = .ok (.putfield 7, 3) := by decide +kernel
theorem dX4_init_9 : decode cX4_init 9 = .ok (.aload_n 0, 1) := by decide +kernel
theorem dX4_init_10 : decode cX4_init 10 = .ok (.iload_n 2, 1) := by decide +kernel
theorem dX4_init_11 : decode cX4_init 11 = .ok (.putfield 13, 3) := by decide +kernel
theorem dX4_init_14 : decode cX4_init 14 = .ok (.aload_n 0, 1) := by decide +kernel
theorem dX4_init_15 : decode cX4_init 15 = .ok (.iload_n 3, 1) := by decide +kernel
theorem dX4_init_16 : decode cX4_init 16 = .ok (.putfield 17, 3) := by decide +kernel
theorem dX4_init_19 : decode cX4_init 19 = .ok (.return_, 1) := by decide +kernel
theorem dX4_sort_0 : decode cX4_sort 0 = .ok (.aload_n 0, 1) := by decide +kernel
theorem dX4_sort_1 : decode cX4_sort 1 = .ok (.getfield 7, 3) := by decide +kernel
theorem dX4_sort_4 : decode cX4_sort 4 = .ok (.getfield 20, 3) := by decide +kernel
theorem dX4_sort_7 : decode cX4_sort 7 = .ok (.ireturn, 1) := by decide +kernel
theorem dX4_ground_0 : decode cX4_ground 0 = .ok (.aload_n 0, 1) := by decide +kernel
theorem dX4_ground_1 : decode cX4_ground 1 = .ok (.getfield 7, 3) := by decide +kernel
theorem dX4_ground_4 : decode cX4_ground 4 = .ok (.areturn, 1) := by decide +kernel
theorem dX4_shift_0 : decode cX4_shift 0 = .ok (.aload_n 0, 1) := by decide +kernel
theorem dX4_shift_1 : decode cX4_shift 1 = .ok (.getfield 13, 3) := by decide +kernel
theorem dX4_shift_4 : decode cX4_shift 4 = .ok (.ireturn, 1) := by decide +kernel
theorem dX4_windows_0 : decode cX4_windows 0 = .ok (.aload_n 0, 1) := by decide +kernel
theorem dX4_windows_1 : decode cX4_windows 1 = .ok (.getfield 17, 3) := by decide +kernel
theorem dX4_windows_4 : decode cX4_windows 4 = .ok (.ireturn, 1) := by decide +kernel
theorem dX5_init_0 : decode cX5_init 0 = .ok (.aload_n 0, 1) := by decide +kernel
theorem dX5_init_1 : decode cX5_init 1 = .ok (.invokespecial 1, 3) := by decide +kernel
theorem dX5_init_4 : decode cX5_init 4 = .ok (.aload_n 0, 1) := by decide +kernel
theorem dX5_init_5 : decode cX5_init 5 = .ok (.bipush 8, 2) := by decide +kernel
theorem dX5_init_7 : decode cX5_init 7 = .ok (.anewarray 9, 3) := by decide +kernel
theorem dX5_init_10 : decode cX5_init 10 = .ok (.putfield 11, 3) := by decide +kernel
theorem dX5_init_13 : decode cX5_init 13 = .ok (.aload_n 0, 1) := by decide +kernel
theorem dX5_init_14 : decode cX5_init 14 = .ok (.iconst 0, 1) := by decide +kernel
theorem dX5_init_15 : decode cX5_init 15 = .ok (.putfield 15, 3) := by decide +kernel
theorem dX5_init_18 : decode cX5_init 18 = .ok (.return_, 1) := by decide +kernel
theorem dX5_make_0 : decode cX5_make 0 = .ok (.iload_n 1, 1) := by decide +kernel
theorem dX5_make_1 : decode cX5_make 1 = .ok (.invokestatic 19, 3) := by decide +kernel
theorem dX5_make_4 : decode cX5_make 4 = .ok (.iload_n 2, 1) := by decide +kernel
theorem dX5_make_5 : decode cX5_make 5 = .ok (.ifCond .lt 13, 3) := by decide +kernel
theorem dX5_make_8 : decode cX5_make 8 = .ok (.iload_n 2, 1) := by decide +kernel
theorem dX5_make_9 : decode cX5_make 9 = .ok (.bipush 8, 2) := by decide +kernel
theorem dX5_make_11 : decode cX5_make 11 = .ok (.if_icmp .gt 7, 3) := by decide +kernel
theorem dX5_make_14 : decode cX5_make 14 = .ok (.iconst 1, 1) := by decide +kernel
theorem dX5_make_15 : decode cX5_make 15 = .ok (.goto 4, 3) := by decide +kernel
theorem dX5_make_18 : decode cX5_make 18 = .ok (.iconst 0, 1) := by decide +kernel
theorem dX5_make_19 : decode cX5_make 19 = .ok (.invokestatic 23, 3) := by decide +kernel
theorem dX5_make_22 : decode cX5_make 22 = .ok (.iload_n 3, 1) := by decide +kernel
theorem dX5_make_23 : decode cX5_make 23 = .ok (.bipush 24, 2) := by decide +kernel
theorem dX5_make_25 : decode cX5_make 25 = .ok (.if_icmp .gt 7, 3) := by decide +kernel
theorem dX5_make_28 : decode cX5_make 28 = .ok (.iconst 1, 1) := by decide +kernel
theorem dX5_make_29 : decode cX5_make 29 = .ok (.goto 4, 3) := by decide +kernel
theorem dX5_make_32 : decode cX5_make 32 = .ok (.iconst 0, 1) := by decide +kernel
theorem dX5_make_33 : decode cX5_make 33 = .ok (.invokestatic 23, 3) := by decide +kernel
theorem dX5_make_36 : decode cX5_make 36 = .ok (.iload_n 3, 1) := by decide +kernel
theorem dX5_make_37 : decode cX5_make 37 = .ok (.invokestatic 27, 3) := by decide +kernel
theorem dX5_make_40 : decode cX5_make 40 = .ok (.aload_n 0, 1) := by decide +kernel
theorem dX5_make_41 : decode cX5_make 41 = .ok (.iload_n 1, 1) := by decide +kernel
theorem dX5_make_42 : decode cX5_make 42 = .ok (.new 30, 3) := by decide +kernel
theorem dX5_make_45 : decode cX5_make 45 = .ok (.dup, 1) := by decide +kernel
theorem dX5_make_46 : decode cX5_make 46 = .ok (.iload_n 2, 1) := by decide +kernel
theorem dX5_make_47 : decode cX5_make 47 = .ok (.iload_n 3, 1) := by decide +kernel
theorem dX5_make_48 : decode cX5_make 48 = .ok (.invokespecial 32, 3) := by decide +kernel
theorem dX5_make_51 : decode cX5_make 51 = .ok (.invokevirtual 35, 3) := by decide +kernel
theorem dX5_make_54 : decode cX5_make 54 = .ok (.ireturn, 1) := by decide +kernel
theorem dX5_grid_0 : decode cX5_grid 0 = .ok (.iload_n 1, 1) := by decide +kernel
theorem dX5_grid_1 : decode cX5_grid 1 = .ok (.invokestatic 19, 3) := by decide +kernel
theorem dX5_grid_4 : decode cX5_grid 4 = .ok (.iload_n 2, 1) := by decide +kernel
theorem dX5_grid_5 : decode cX5_grid 5 = .ok (.bipush 6, 2) := by decide +kernel
theorem dX5_grid_7 : decode cX5_grid 7 = .ok (.if_icmp .gt 7, 3) := by decide +kernel
theorem dX5_grid_10 : decode cX5_grid 10 = .ok (.iconst 1, 1) := by decide +kernel
theorem dX5_grid_11 : decode cX5_grid 11 = .ok (.goto 4, 3) := by decide +kernel
theorem dX5_grid_14 : decode cX5_grid 14 = .ok (.iconst 0, 1) := by decide +kernel
theorem dX5_grid_15 : decode cX5_grid 15 = .ok (.invokestatic 23, 3) := by decide +kernel
theorem dX5_grid_18 : decode cX5_grid 18 = .ok (.iload_n 3, 1) := by decide +kernel
theorem dX5_grid_19 : decode cX5_grid 19 = .ok (.iconst 4, 1) := by decide +kernel
theorem dX5_grid_20 : decode cX5_grid 20 = .ok (.if_icmp .gt 7, 3) := by decide +kernel
theorem dX5_grid_23 : decode cX5_grid 23 = .ok (.iconst 1, 1) := by decide +kernel
theorem dX5_grid_24 : decode cX5_grid 24 = .ok (.goto 4, 3) := by decide +kernel
theorem dX5_grid_27 : decode cX5_grid 27 = .ok (.iconst 0, 1) := by decide +kernel
theorem dX5_grid_28 : decode cX5_grid 28 = .ok (.invokestatic 23, 3) := by decide +kernel
theorem dX5_grid_31 : decode cX5_grid 31 = .ok (.iload_n 2, 1) := by decide +kernel
theorem dX5_grid_32 : decode cX5_grid 32 = .ok (.invokestatic 27, 3) := by decide +kernel
theorem dX5_grid_35 : decode cX5_grid 35 = .ok (.iload_n 3, 1) := by decide +kernel
theorem dX5_grid_36 : decode cX5_grid 36 = .ok (.invokestatic 27, 3) := by decide +kernel
theorem dX5_grid_39 : decode cX5_grid 39 = .ok (.aload_n 0, 1) := by decide +kernel
theorem dX5_grid_40 : decode cX5_grid 40 = .ok (.iload_n 1, 1) := by decide +kernel
theorem dX5_grid_41 : decode cX5_grid 41 = .ok (.new 39, 3) := by decide +kernel
theorem dX5_grid_44 : decode cX5_grid 44 = .ok (.dup, 1) := by decide +kernel
theorem dX5_grid_45 : decode cX5_grid 45 = .ok (.iload_n 2, 1) := by decide +kernel
theorem dX5_grid_46 : decode cX5_grid 46 = .ok (.iload_n 3, 1) := by decide +kernel
theorem dX5_grid_47 : decode cX5_grid 47 = .ok (.invokespecial 41, 3) := by decide +kernel
theorem dX5_grid_50 : decode cX5_grid 50 = .ok (.invokevirtual 35, 3) := by decide +kernel
theorem dX5_grid_53 : decode cX5_grid 53 = .ok (.ireturn, 1) := by decide +kernel
theorem dX5_record_0 : decode cX5_record 0 = .ok (.iload_n 1, 1) := by decide +kernel
theorem dX5_record_1 : decode cX5_record 1 = .ok (.invokestatic 19, 3) := by decide +kernel
theorem dX5_record_4 : decode cX5_record 4 = .ok (.aload_n 0, 1) := by decide +kernel
theorem dX5_record_5 : decode cX5_record 5 = .ok (.iload_n 1, 1) := by decide +kernel
theorem dX5_record_6 : decode cX5_record 6 = .ok (.new 42, 3) := by decide +kernel
theorem dX5_record_9 : decode cX5_record 9 = .ok (.dup, 1) := by decide +kernel
theorem dX5_record_10 : decode cX5_record 10 = .ok (.invokespecial 44, 3) := by decide +kernel
theorem dX5_record_13 : decode cX5_record 13 = .ok (.invokevirtual 35, 3) := by decide +kernel
theorem dX5_record_16 : decode cX5_record 16 = .ok (.ireturn, 1) := by decide +kernel
theorem dX5_window_0 : decode cX5_window 0 = .ok (.iload_n 1, 1) := by decide +kernel
theorem dX5_window_1 : decode cX5_window 1 = .ok (.invokestatic 19, 3) := by decide +kernel
theorem dX5_window_4 : decode cX5_window 4 = .ok (.iload_n 2, 1) := by decide +kernel
theorem dX5_window_5 : decode cX5_window 5 = .ok (.invokestatic 19, 3) := by decide +kernel
theorem dX5_window_8 : decode cX5_window 8 = .ok (.aload_n 0, 1) := by decide +kernel
theorem dX5_window_9 : decode cX5_window 9 = .ok (.iload_n 2, 1) := by decide +kernel
theorem dX5_window_10 : decode cX5_window 10 = .ok (.invokevirtual 45, 3) := by decide +kernel
theorem dX5_window_13 : decode cX5_window 13 = .ok (.astore 4, 2) := by decide +kernel
theorem dX5_window_15 : decode cX5_window 15 = .ok (.aload 4, 2) := by decide +kernel
theorem dX5_window_17 : decode cX5_window 17 = .ok (.invokevirtual 49, 3) := by decide +kernel
theorem dX5_window_20 : decode cX5_window 20 = .ok (.ifnull 7, 3) := by decide +kernel
theorem dX5_window_23 : decode cX5_window 23 = .ok (.iconst 1, 1) := by decide +kernel
theorem dX5_window_24 : decode cX5_window 24 = .ok (.goto 4, 3) := by decide +kernel
theorem dX5_window_27 : decode cX5_window 27 = .ok (.iconst 0, 1) := by decide +kernel
theorem dX5_window_28 : decode cX5_window 28 = .ok (.invokestatic 53, 3) := by decide +kernel
theorem dX5_window_31 : decode cX5_window 31 = .ok (.aload 4, 2) := by decide +kernel
theorem dX5_window_33 : decode cX5_window 33 = .ok (.invokevirtual 56, 3) := by decide +kernel
theorem dX5_window_36 : decode cX5_window 36 = .ok (.iconst 5, 1) := by decide +kernel
theorem dX5_window_37 : decode cX5_window 37 = .ok (.if_icmp .le 11, 3) := by decide +kernel
theorem dX5_window_40 : decode cX5_window 40 = .ok (.new 60, 3) := by decide +kernel
theorem dX5_window_43 : decode cX5_window 43 = .ok (.dup, 1) := by decide +kernel
theorem dX5_window_44 : decode cX5_window 44 = .ok (.invokespecial 62, 3) := by decide +kernel
theorem dX5_window_47 : decode cX5_window 47 = .ok (.athrow, 1) := by decide +kernel
theorem dX5_window_48 : decode cX5_window 48 = .ok (.aload 4, 2) := by decide +kernel
theorem dX5_window_50 : decode cX5_window 50 = .ok (.invokevirtual 63, 3) := by decide +kernel
theorem dX5_window_53 : decode cX5_window 53 = .ok (.iload_n 3, 1) := by decide +kernel
theorem dX5_window_54 : decode cX5_window 54 = .ok (.iadd, 1) := by decide +kernel
theorem dX5_window_55 : decode cX5_window 55 = .ok (.istore 5, 2) := by decide +kernel
theorem dX5_window_57 : decode cX5_window 57 = .ok (.aload_n 0, 1) := by decide +kernel
theorem dX5_window_58 : decode cX5_window 58 = .ok (.iload_n 1, 1) := by decide +kernel
theorem dX5_window_59 : decode cX5_window 59 = .ok (.new 66, 3) := by decide +kernel
theorem dX5_window_62 : decode cX5_window 62 = .ok (.dup, 1) := by decide +kernel
theorem dX5_window_63 : decode cX5_window 63 = .ok (.aload 4, 2) := by decide +kernel
theorem dX5_window_65 : decode cX5_window 65 = .ok (.invokevirtual 49, 3) := by decide +kernel
theorem dX5_window_68 : decode cX5_window 68 = .ok (.iload 5, 2) := by decide +kernel
theorem dX5_window_70 : decode cX5_window 70 = .ok (.aload 4, 2) := by decide +kernel
theorem dX5_window_72 : decode cX5_window 72 = .ok (.invokevirtual 56, 3) := by decide +kernel
theorem dX5_window_75 : decode cX5_window 75 = .ok (.iconst 1, 1) := by decide +kernel
theorem dX5_window_76 : decode cX5_window 76 = .ok (.iadd, 1) := by decide +kernel
theorem dX5_window_77 : decode cX5_window 77 = .ok (.invokespecial 68, 3) := by decide +kernel
theorem dX5_window_80 : decode cX5_window 80 = .ok (.invokevirtual 35, 3) := by decide +kernel
theorem dX5_window_83 : decode cX5_window 83 = .ok (.ireturn, 1) := by decide +kernel
theorem dX5_copy_0 : decode cX5_copy 0 = .ok (.iload_n 1, 1) := by decide +kernel
theorem dX5_copy_1 : decode cX5_copy 1 = .ok (.invokestatic 19, 3) := by decide +kernel
theorem dX5_copy_4 : decode cX5_copy 4 = .ok (.iload_n 2, 1) := by decide +kernel
theorem dX5_copy_5 : decode cX5_copy 5 = .ok (.iconst (-1), 1) := by decide +kernel
theorem dX5_copy_6 : decode cX5_copy 6 = .ok (.if_icmp .lt 13, 3) := by decide +kernel
theorem dX5_copy_9 : decode cX5_copy 9 = .ok (.iload_n 2, 1) := by decide +kernel
theorem dX5_copy_10 : decode cX5_copy 10 = .ok (.bipush 8, 2) := by decide +kernel
theorem dX5_copy_12 : decode cX5_copy 12 = .ok (.if_icmp .ge 7, 3) := by decide +kernel
theorem dX5_copy_15 : decode cX5_copy 15 = .ok (.iconst 1, 1) := by decide +kernel
theorem dX5_copy_16 : decode cX5_copy 16 = .ok (.goto 4, 3) := by decide +kernel
theorem dX5_copy_19 : decode cX5_copy 19 = .ok (.iconst 0, 1) := by decide +kernel
theorem dX5_copy_20 : decode cX5_copy 20 = .ok (.invokestatic 23, 3) := by decide +kernel
theorem dX5_copy_23 : decode cX5_copy 23 = .ok (.iload_n 2, 1) := by decide +kernel
theorem dX5_copy_24 : decode cX5_copy 24 = .ok (.iconst (-1), 1) := by decide +kernel
theorem dX5_copy_25 : decode cX5_copy 25 = .ok (.if_icmp .ne 7, 3) := by decide +kernel
theorem dX5_copy_28 : decode cX5_copy 28 = .ok (.aconst_null, 1) := by decide +kernel
theorem dX5_copy_29 : decode cX5_copy 29 = .ok (.goto 9, 3) := by decide +kernel
theorem dX5_copy_32 : decode cX5_copy 32 = .ok (.aload_n 0, 1) := by decide +kernel
theorem dX5_copy_33 : decode cX5_copy 33 = .ok (.getfield 11, 3) := by decide +kernel
theorem dX5_copy_36 : decode cX5_copy 36 = .ok (.iload_n 2, 1) := by decide +kernel
theorem dX5_copy_37 : decode cX5_copy 37 = .ok (.aaload, 1) := by decide +kernel
theorem dX5_copy_38 : decode cX5_copy 38 = .ok (.astore_n 3, 1) := by decide +kernel
theorem dX5_copy_39 : decode cX5_copy 39 = .ok (.aload_n 0, 1) := by decide +kernel
theorem dX5_copy_40 : decode cX5_copy 40 = .ok (.getfield 11, 3) := by decide +kernel
theorem dX5_copy_43 : decode cX5_copy 43 = .ok (.iload_n 1, 1) := by decide +kernel
theorem dX5_copy_44 : decode cX5_copy 44 = .ok (.aaload, 1) := by decide +kernel
theorem dX5_copy_45 : decode cX5_copy 45 = .ok (.aload_n 3, 1) := by decide +kernel
theorem dX5_copy_46 : decode cX5_copy 46 = .ok (.if_acmp .ne 7, 3) := by decide +kernel
theorem dX5_copy_49 : decode cX5_copy 49 = .ok (.iconst 1, 1) := by decide +kernel
theorem dX5_copy_50 : decode cX5_copy 50 = .ok (.goto 4, 3) := by decide +kernel
theorem dX5_copy_53 : decode cX5_copy 53 = .ok (.iconst 0, 1) := by decide +kernel
theorem dX5_copy_54 : decode cX5_copy 54 = .ok (.istore 4, 2) := by decide +kernel
theorem dX5_copy_56 : decode cX5_copy 56 = .ok (.aload_n 0, 1) := by decide +kernel
theorem dX5_copy_57 : decode cX5_copy 57 = .ok (.getfield 11, 3) := by decide +kernel
theorem dX5_copy_60 : decode cX5_copy 60 = .ok (.iload_n 1, 1) := by decide +kernel
theorem dX5_copy_61 : decode cX5_copy 61 = .ok (.aload_n 3, 1) := by decide +kernel
theorem dX5_copy_62 : decode cX5_copy 62 = .ok (.aastore, 1) := by decide +kernel
theorem dX5_copy_63 : decode cX5_copy 63 = .ok (.iload 4, 2) := by decide +kernel
theorem dX5_copy_65 : decode cX5_copy 65 = .ok (.ireturn, 1) := by decide +kernel
theorem dX5_lose_0 : decode cX5_lose 0 = .ok (.iload_n 1, 1) := by decide +kernel
theorem dX5_lose_1 : decode cX5_lose 1 = .ok (.invokestatic 19, 3) := by decide +kernel
theorem dX5_lose_4 : decode cX5_lose 4 = .ok (.aload_n 0, 1) := by decide +kernel
theorem dX5_lose_5 : decode cX5_lose 5 = .ok (.iload_n 1, 1) := by decide +kernel
theorem dX5_lose_6 : decode cX5_lose 6 = .ok (.invokevirtual 45, 3) := by decide +kernel
theorem dX5_lose_9 : decode cX5_lose 9 = .ok (.astore_n 3, 1) := by decide +kernel
theorem dX5_lose_10 : decode cX5_lose 10 = .ok (.aload_n 3, 1) := by decide +kernel
theorem dX5_lose_11 : decode cX5_lose 11 = .ok (.instanceof 39, 3) := by decide +kernel
theorem dX5_lose_14 : decode cX5_lose 14 = .ok (.ifCond .eq 16, 3) := by decide +kernel
theorem dX5_lose_17 : decode cX5_lose 17 = .ok (.aload_n 3, 1) := by decide +kernel
theorem dX5_lose_18 : decode cX5_lose 18 = .ok (.checkcast 39, 3) := by decide +kernel
theorem dX5_lose_21 : decode cX5_lose 21 = .ok (.astore 4, 2) := by decide +kernel
theorem dX5_lose_23 : decode cX5_lose 23 = .ok (.aload 4, 2) := by decide +kernel
theorem dX5_lose_25 : decode cX5_lose 25 = .ok (.iload_n 2, 1) := by decide +kernel
theorem dX5_lose_26 : decode cX5_lose 26 = .ok (.invokestatic 71, 3) := by decide +kernel
theorem dX5_lose_29 : decode cX5_lose 29 = .ok (.ireturn, 1) := by decide +kernel
theorem dX5_lose_30 : decode cX5_lose 30 = .ok (.aload_n 3, 1) := by decide +kernel
theorem dX5_lose_31 : decode cX5_lose 31 = .ok (.invokestatic 75, 3) := by decide +kernel
theorem dX5_lose_34 : decode cX5_lose 34 = .ok (.invokestatic 79, 3) := by decide +kernel
theorem dX5_lose_37 : decode cX5_lose 37 = .ok (.ireturn, 1) := by decide +kernel
theorem dX5_resize_0 : decode cX5_resize 0 = .ok (.iload_n 1, 1) := by decide +kernel
theorem dX5_resize_1 : decode cX5_resize 1 = .ok (.invokestatic 19, 3) := by decide +kernel
theorem dX5_resize_4 : decode cX5_resize 4 = .ok (.iload_n 2, 1) := by decide +kernel
theorem dX5_resize_5 : decode cX5_resize 5 = .ok (.bipush 24, 2) := by decide +kernel
theorem dX5_resize_7 : decode cX5_resize 7 = .ok (.if_icmp .gt 7, 3) := by decide +kernel
theorem dX5_resize_10 : decode cX5_resize 10 = .ok (.iconst 1, 1) := by decide +kernel
theorem dX5_resize_11 : decode cX5_resize 11 = .ok (.goto 4, 3) := by decide +kernel
theorem dX5_resize_14 : decode cX5_resize 14 = .ok (.iconst 0, 1) := by decide +kernel
theorem dX5_resize_15 : decode cX5_resize 15 = .ok (.invokestatic 23, 3) := by decide +kernel
theorem dX5_resize_18 : decode cX5_resize 18 = .ok (.aload_n 0, 1) := by decide +kernel
theorem dX5_resize_19 : decode cX5_resize 19 = .ok (.iload_n 1, 1) := by decide +kernel
theorem dX5_resize_20 : decode cX5_resize 20 = .ok (.invokevirtual 45, 3) := by decide +kernel
theorem dX5_resize_23 : decode cX5_resize 23 = .ok (.invokestatic 75, 3) := by decide +kernel
theorem dX5_resize_26 : decode cX5_resize 26 = .ok (.astore_n 3, 1) := by decide +kernel
theorem dX5_resize_27 : decode cX5_resize 27 = .ok (.iload_n 2, 1) := by decide +kernel
theorem dX5_resize_28 : decode cX5_resize 28 = .ok (.invokestatic 27, 3) := by decide +kernel
theorem dX5_resize_31 : decode cX5_resize 31 = .ok (.aload_n 3, 1) := by decide +kernel
theorem dX5_resize_32 : decode cX5_resize 32 = .ok (.invokevirtual 83, 3) := by decide +kernel
theorem dX5_resize_35 : decode cX5_resize 35 = .ok (.ifCond .ne 7, 3) := by decide +kernel
theorem dX5_resize_38 : decode cX5_resize 38 = .ok (.iconst 1, 1) := by decide +kernel
theorem dX5_resize_39 : decode cX5_resize 39 = .ok (.goto 4, 3) := by decide +kernel
theorem dX5_resize_42 : decode cX5_resize 42 = .ok (.iconst 0, 1) := by decide +kernel
theorem dX5_resize_43 : decode cX5_resize 43 = .ok (.invokestatic 87, 3) := by decide +kernel
theorem dX5_resize_46 : decode cX5_resize 46 = .ok (.aload_n 3, 1) := by decide +kernel
theorem dX5_resize_47 : decode cX5_resize 47 = .ok (.iload_n 2, 1) := by decide +kernel
theorem dX5_resize_48 : decode cX5_resize 48 = .ok (.invokevirtual 90, 3) := by decide +kernel
theorem dX5_resize_51 : decode cX5_resize 51 = .ok (.ireturn, 1) := by decide +kernel
theorem dX5_size_0 : decode cX5_size 0 = .ok (.iload_n 1, 1) := by decide +kernel
theorem dX5_size_1 : decode cX5_size 1 = .ok (.invokestatic 19, 3) := by decide +kernel
theorem dX5_size_4 : decode cX5_size 4 = .ok (.aload_n 0, 1) := by decide +kernel
theorem dX5_size_5 : decode cX5_size 5 = .ok (.iload_n 1, 1) := by decide +kernel
theorem dX5_size_6 : decode cX5_size 6 = .ok (.invokevirtual 45, 3) := by decide +kernel
theorem dX5_size_9 : decode cX5_size 9 = .ok (.astore_n 2, 1) := by decide +kernel
theorem dX5_size_10 : decode cX5_size 10 = .ok (.aload_n 2, 1) := by decide +kernel
theorem dX5_size_11 : decode cX5_size 11 = .ok (.instanceof 39, 3) := by decide +kernel
theorem dX5_size_14 : decode cX5_size 14 = .ok (.ifCond .eq 14, 3) := by decide +kernel
theorem dX5_size_17 : decode cX5_size 17 = .ok (.aload_n 2, 1) := by decide +kernel
theorem dX5_size_18 : decode cX5_size 18 = .ok (.checkcast 39, 3) := by decide +kernel
theorem dX5_size_21 : decode cX5_size 21 = .ok (.astore_n 3, 1) := by decide +kernel
theorem dX5_size_22 : decode cX5_size 22 = .ok (.aload_n 3, 1) := by decide +kernel
theorem dX5_size_23 : decode cX5_size 23 = .ok (.getfield 94, 3) := by decide +kernel
theorem dX5_size_26 : decode cX5_size 26 = .ok (.arraylength, 1) := by decide +kernel
theorem dX5_size_27 : decode cX5_size 27 = .ok (.ireturn, 1) := by decide +kernel
theorem dX5_size_28 : decode cX5_size 28 = .ok (.aload_n 2, 1) := by decide +kernel
theorem dX5_size_29 : decode cX5_size 29 = .ok (.invokevirtual 49, 3) := by decide +kernel
theorem dX5_size_32 : decode cX5_size 32 = .ok (.astore_n 3, 1) := by decide +kernel
theorem dX5_size_33 : decode cX5_size 33 = .ok (.aload_n 3, 1) := by decide +kernel
theorem dX5_size_34 : decode cX5_size 34 = .ok (.ifnull 7, 3) := by decide +kernel
theorem dX5_size_37 : decode cX5_size 37 = .ok (.iconst 1, 1) := by decide +kernel
theorem dX5_size_38 : decode cX5_size 38 = .ok (.goto 4, 3) := by decide +kernel
theorem dX5_size_41 : decode cX5_size 41 = .ok (.iconst 0, 1) := by decide +kernel
theorem dX5_size_42 : decode cX5_size 42 = .ok (.invokestatic 53, 3) := by decide +kernel
theorem dX5_size_45 : decode cX5_size 45 = .ok (.aload_n 3, 1) := by decide +kernel
theorem dX5_size_46 : decode cX5_size 46 = .ok (.invokevirtual 83, 3) := by decide +kernel
theorem dX5_size_49 : decode cX5_size 49 = .ok (.ifCond .ne 7, 3) := by decide +kernel
theorem dX5_size_52 : decode cX5_size 52 = .ok (.iconst 1, 1) := by decide +kernel
theorem dX5_size_53 : decode cX5_size 53 = .ok (.goto 4, 3) := by decide +kernel
theorem dX5_size_56 : decode cX5_size 56 = .ok (.iconst 0, 1) := by decide +kernel
theorem dX5_size_57 : decode cX5_size 57 = .ok (.invokestatic 87, 3) := by decide +kernel
theorem dX5_size_60 : decode cX5_size 60 = .ok (.aload_n 3, 1) := by decide +kernel
theorem dX5_size_61 : decode cX5_size 61 = .ok (.invokevirtual 98, 3) := by decide +kernel
theorem dX5_size_64 : decode cX5_size 64 = .ok (.aload_n 2, 1) := by decide +kernel
theorem dX5_size_65 : decode cX5_size 65 = .ok (.invokevirtual 63, 3) := by decide +kernel
theorem dX5_size_68 : decode cX5_size 68 = .ok (.isub, 1) := by decide +kernel
theorem dX5_size_69 : decode cX5_size 69 = .ok (.ireturn, 1) := by decide +kernel
theorem dX5_take_0 : decode cX5_take 0 = .ok (.iload_n 1, 1) := by decide +kernel
theorem dX5_take_1 : decode cX5_take 1 = .ok (.invokestatic 19, 3) := by decide +kernel
theorem dX5_take_4 : decode cX5_take 4 = .ok (.aload_n 0, 1) := by decide +kernel
theorem dX5_take_5 : decode cX5_take 5 = .ok (.iload_n 1, 1) := by decide +kernel
theorem dX5_take_6 : decode cX5_take 6 = .ok (.invokevirtual 45, 3) := by decide +kernel
theorem dX5_take_9 : decode cX5_take 9 = .ok (.astore_n 3, 1) := by decide +kernel
theorem dX5_take_10 : decode cX5_take 10 = .ok (.aload_n 3, 1) := by decide +kernel
theorem dX5_take_11 : decode cX5_take 11 = .ok (.invokevirtual 101, 3) := by decide +kernel
theorem dX5_take_14 : decode cX5_take 14 = .ok (.bipush 7, 2) := by decide +kernel
theorem dX5_take_16 : decode cX5_take 16 = .ok (.if_icmp .gt 7, 3) := by decide +kernel
theorem dX5_take_19 : decode cX5_take 19 = .ok (.iconst 1, 1) := by decide +kernel
theorem dX5_take_20 : decode cX5_take 20 = .ok (.goto 4, 3) := by decide +kernel
theorem dX5_take_23 : decode cX5_take 23 = .ok (.iconst 0, 1) := by decide +kernel
theorem dX5_take_24 : decode cX5_take 24 = .ok (.invokestatic 53, 3) := by decide +kernel
theorem dX5_take_27 : decode cX5_take 27 = .ok (.aload_n 3, 1) := by decide +kernel
theorem dX5_take_28 : decode cX5_take 28 = .ok (.iload_n 2, 1) := by decide +kernel
theorem dX5_take_29 : decode cX5_take 29 = .ok (.invokestatic 104, 3) := by decide +kernel
theorem dX5_take_32 : decode cX5_take 32 = .ok (.lreturn, 1) := by decide +kernel
theorem dX5_put_0 : decode cX5_put 0 = .ok (.iload_n 1, 1) := by decide +kernel
theorem dX5_put_1 : decode cX5_put 1 = .ok (.invokestatic 19, 3) := by decide +kernel
theorem dX5_put_4 : decode cX5_put 4 = .ok (.aload_n 0, 1) := by decide +kernel
theorem dX5_put_5 : decode cX5_put 5 = .ok (.iload_n 1, 1) := by decide +kernel
theorem dX5_put_6 : decode cX5_put 6 = .ok (.invokevirtual 45, 3) := by decide +kernel
theorem dX5_put_9 : decode cX5_put 9 = .ok (.astore 5, 2) := by decide +kernel
theorem dX5_put_11 : decode cX5_put 11 = .ok (.aload 5, 2) := by decide +kernel
theorem dX5_put_13 : decode cX5_put 13 = .ok (.invokevirtual 101, 3) := by decide +kernel
theorem dX5_put_16 : decode cX5_put 16 = .ok (.bipush 7, 2) := by decide +kernel
theorem dX5_put_18 : decode cX5_put 18 = .ok (.if_icmp .gt 7, 3) := by decide +kernel
theorem dX5_put_21 : decode cX5_put 21 = .ok (.iconst 1, 1) := by decide +kernel
theorem dX5_put_22 : decode cX5_put 22 = .ok (.goto 4, 3) := by decide +kernel
theorem dX5_put_25 : decode cX5_put 25 = .ok (.iconst 0, 1) := by decide +kernel
theorem dX5_put_26 : decode cX5_put 26 = .ok (.invokestatic 53, 3) := by decide +kernel
theorem dX5_put_29 : decode cX5_put 29 = .ok (.aload 5, 2) := by decide +kernel
theorem dX5_put_31 : decode cX5_put 31 = .ok (.iload_n 2, 1) := by decide +kernel
theorem dX5_put_32 : decode cX5_put 32 = .ok (.lload_n 3, 1) := by decide +kernel
theorem dX5_put_33 : decode cX5_put 33 = .ok (.invokestatic 108, 3) := by decide +kernel
theorem dX5_put_36 : decode cX5_put 36 = .ok (.lreturn, 1) := by decide +kernel
theorem dX5_cell_0 : decode cX5_cell 0 = .ok (.iload_n 1, 1) := by decide +kernel
theorem dX5_cell_1 : decode cX5_cell 1 = .ok (.invokestatic 19, 3) := by decide +kernel
theorem dX5_cell_4 : decode cX5_cell 4 = .ok (.aload_n 0, 1) := by decide +kernel
theorem dX5_cell_5 : decode cX5_cell 5 = .ok (.iload_n 1, 1) := by decide +kernel
theorem dX5_cell_6 : decode cX5_cell 6 = .ok (.invokevirtual 112, 3) := by decide +kernel
theorem dX5_cell_9 : decode cX5_cell 9 = .ok (.astore 4, 2) := by decide +kernel
theorem dX5_cell_11 : decode cX5_cell 11 = .ok (.iload_n 2, 1) := by decide +kernel
theorem dX5_cell_12 : decode cX5_cell 12 = .ok (.aload 4, 2) := by decide +kernel
theorem dX5_cell_14 : decode cX5_cell 14 = .ok (.getfield 94, 3) := by decide +kernel
theorem dX5_cell_17 : decode cX5_cell 17 = .ok (.arraylength, 1) := by decide +kernel
theorem dX5_cell_18 : decode cX5_cell 18 = .ok (.invokestatic 116, 3) := by decide +kernel
theorem dX5_cell_21 : decode cX5_cell 21 = .ok (.aload 4, 2) := by decide +kernel
theorem dX5_cell_23 : decode cX5_cell 23 = .ok (.getfield 94, 3) := by decide +kernel
theorem dX5_cell_26 : decode cX5_cell 26 = .ok (.iload_n 2, 1) := by decide +kernel
theorem dX5_cell_27 : decode cX5_cell 27 = .ok (.aaload, 1) := by decide +kernel
theorem dX5_cell_28 : decode cX5_cell 28 = .ok (.iload_n 3, 1) := by decide +kernel
theorem dX5_cell_29 : decode cX5_cell 29 = .ok (.invokestatic 119, 3) := by decide +kernel
theorem dX5_cell_32 : decode cX5_cell 32 = .ok (.aload 4, 2) := by decide +kernel
theorem dX5_cell_34 : decode cX5_cell 34 = .ok (.getfield 94, 3) := by decide +kernel
theorem dX5_cell_37 : decode cX5_cell 37 = .ok (.iload_n 2, 1) := by decide +kernel
theorem dX5_cell_38 : decode cX5_cell 38 = .ok (.aaload, 1) := by decide +kernel
theorem dX5_cell_39 : decode cX5_cell 39 = .ok (.iload_n 3, 1) := by decide +kernel
theorem dX5_cell_40 : decode cX5_cell 40 = .ok (.iaload, 1) := by decide +kernel
theorem dX5_cell_41 : decode cX5_cell 41 = .ok (.ireturn, 1) := by decide +kernel
theorem dX5_setCell_0 : decode cX5_setCell 0 = .ok (.iload_n 1, 1) := by decide +kernel
theorem dX5_setCell_1 : decode cX5_setCell 1 = .ok (.invokestatic 19, 3) := by decide +kernel
theorem dX5_setCell_4 : decode cX5_setCell 4 = .ok (.aload_n 0, 1) := by decide +kernel
theorem dX5_setCell_5 : decode cX5_setCell 5 = .ok (.iload_n 1, 1) := by decide +kernel
theorem dX5_setCell_6 : decode cX5_setCell 6 = .ok (.invokevirtual 112, 3) := by decide +kernel
theorem dX5_setCell_9 : decode cX5_setCell 9 = .ok (.astore 6, 2) := by decide +kernel
theorem dX5_setCell_11 : decode cX5_setCell 11 = .ok (.iload_n 2, 1) := by decide +kernel
theorem dX5_setCell_12 : decode cX5_setCell 12 = .ok (.aload 6, 2) := by decide +kernel
theorem dX5_setCell_14 : decode cX5_setCell 14 = .ok (.getfield 94, 3) := by decide +kernel
theorem dX5_setCell_17 : decode cX5_setCell 17 = .ok (.arraylength, 1) := by decide +kernel
theorem dX5_setCell_18 : decode cX5_setCell 18 = .ok (.invokestatic 116, 3) := by decide +kernel
theorem dX5_setCell_21 : decode cX5_setCell 21 = .ok (.iload 5, 2) := by decide +kernel
theorem dX5_setCell_23 : decode cX5_setCell 23 = .ok (.i2l, 1) := by decide +kernel
theorem dX5_setCell_24 : decode cX5_setCell 24 = .ok (.invokestatic 123, 3) := by decide +kernel
theorem dX5_setCell_27 : decode cX5_setCell 27 = .ok (.aload 6, 2) := by decide +kernel
theorem dX5_setCell_29 : decode cX5_setCell 29 = .ok (.getfield 94, 3) := by decide +kernel
theorem dX5_setCell_32 : decode cX5_setCell 32 = .ok (.iload_n 2, 1) := by decide +kernel
theorem dX5_setCell_33 : decode cX5_setCell 33 = .ok (.aaload, 1) := by decide +kernel
theorem dX5_setCell_34 : decode cX5_setCell 34 = .ok (.iload_n 3, 1) := by decide +kernel
theorem dX5_setCell_35 : decode cX5_setCell 35 = .ok (.invokestatic 119, 3) := by decide +kernel
theorem dX5_setCell_38 : decode cX5_setCell 38 = .ok (.aload 6, 2) := by decide +kernel
theorem dX5_setCell_40 : decode cX5_setCell 40 = .ok (.getfield 94, 3) := by decide +kernel
theorem dX5_setCell_43 : decode cX5_setCell 43 = .ok (.iload_n 2, 1) := by decide +kernel
theorem dX5_setCell_44 : decode cX5_setCell 44 = .ok (.aaload, 1) := by decide +kernel
theorem dX5_setCell_45 : decode cX5_setCell 45 = .ok (.iload_n 3, 1) := by decide +kernel
theorem dX5_setCell_46 : decode cX5_setCell 46 = .ok (.iload 4, 2) := by decide +kernel
theorem dX5_setCell_48 : decode cX5_setCell 48 = .ok (.iload 5, 2) := by decide +kernel
theorem dX5_setCell_50 : decode cX5_setCell 50 = .ok (.idiv, 1) := by decide +kernel
theorem dX5_setCell_51 : decode cX5_setCell 51 = .ok (.iastore, 1) := by decide +kernel
theorem dX5_setCell_52 : decode cX5_setCell 52 = .ok (.return_, 1) := by decide +kernel
theorem dX5_refer_0 : decode cX5_refer 0 = .ok (.iload_n 1, 1) := by decide +kernel
theorem dX5_refer_1 : decode cX5_refer 1 = .ok (.invokestatic 19, 3) := by decide +kernel
theorem dX5_refer_4 : decode cX5_refer 4 = .ok (.iload_n 3, 1) := by decide +kernel
theorem dX5_refer_5 : decode cX5_refer 5 = .ok (.invokestatic 19, 3) := by decide +kernel
theorem dX5_refer_8 : decode cX5_refer 8 = .ok (.aload_n 0, 1) := by decide +kernel
theorem dX5_refer_9 : decode cX5_refer 9 = .ok (.iload_n 1, 1) := by decide +kernel
theorem dX5_refer_10 : decode cX5_refer 10 = .ok (.invokevirtual 45, 3) := by decide +kernel
theorem dX5_refer_13 : decode cX5_refer 13 = .ok (.astore 4, 2) := by decide +kernel
theorem dX5_refer_15 : decode cX5_refer 15 = .ok (.aload 4, 2) := by decide +kernel
theorem dX5_refer_17 : decode cX5_refer 17 = .ok (.invokevirtual 101, 3) := by decide +kernel
