theorem dX5_fitted_88 : decode cX5_fitted 88 = .ok (.lreturn, 1) := by decide +kernel
theorem dX5_reckon_0 : decode cX5_reckon 0 = .ok (.iload_n 0, 1) := by decide +kernel
theorem dX5_reckon_1 : decode cX5_reckon 1 = .ok (.tableswitch 51 0 3 #[31, 35, 39, 43], 31) := by decide +kernel
theorem dX5_reckon_32 : decode cX5_reckon 32 = .ok (.lload_n 1, 1) := by decide +kernel
theorem dX5_reckon_33 : decode cX5_reckon 33 = .ok (.lload_n 3, 1) := by decide +kernel
theorem dX5_reckon_34 : decode cX5_reckon 34 = .ok (.ladd, 1) := by decide +kernel
theorem dX5_reckon_35 : decode cX5_reckon 35 = .ok (.lreturn, 1) := by decide +kernel
theorem dX5_reckon_36 : decode cX5_reckon 36 = .ok (.lload_n 1, 1) := by decide +kernel
theorem dX5_reckon_37 : decode cX5_reckon 37 = .ok (.lload_n 3, 1) := by decide +kernel
theorem dX5_reckon_38 : decode cX5_reckon 38 = .ok (.lsub, 1) := by decide +kernel
theorem dX5_reckon_39 : decode cX5_reckon 39 = .ok (.lreturn, 1) := by decide +kernel
theorem dX5_reckon_40 : decode cX5_reckon 40 = .ok (.lload_n 1, 1) := by decide +kernel
theorem dX5_reckon_41 : decode cX5_reckon 41 = .ok (.lload_n 3, 1) := by decide +kernel
theorem dX5_reckon_42 : decode cX5_reckon 42 = .ok (.lmul, 1) := by decide +kernel
theorem dX5_reckon_43 : decode cX5_reckon 43 = .ok (.lreturn, 1) := by decide +kernel
theorem dX5_reckon_44 : decode cX5_reckon 44 = .ok (.lload_n 3, 1) := by decide +kernel
theorem dX5_reckon_45 : decode cX5_reckon 45 = .ok (.invokestatic 123, 3) := by decide +kernel
theorem dX5_reckon_48 : decode cX5_reckon 48 = .ok (.lload_n 1, 1) := by decide +kernel
theorem dX5_reckon_49 : decode cX5_reckon 49 = .ok (.lload_n 3, 1) := by decide +kernel
theorem dX5_reckon_50 : decode cX5_reckon 50 = .ok (.ldiv, 1) := by decide +kernel
theorem dX5_reckon_51 : decode cX5_reckon 51 = .ok (.lreturn, 1) := by decide +kernel
theorem dX5_reckon_52 : decode cX5_reckon 52 = .ok (.lload_n 3, 1) := by decide +kernel
theorem dX5_reckon_53 : decode cX5_reckon 53 = .ok (.invokestatic 123, 3) := by decide +kernel
theorem dX5_reckon_56 : decode cX5_reckon 56 = .ok (.lload_n 1, 1) := by decide +kernel
theorem dX5_reckon_57 : decode cX5_reckon 57 = .ok (.lload_n 3, 1) := by decide +kernel
theorem dX5_reckon_58 : decode cX5_reckon 58 = .ok (.lrem, 1) := by decide +kernel
theorem dX5_reckon_59 : decode cX5_reckon 59 = .ok (.lreturn, 1) := by decide +kernel
theorem dX5_requireRegister_0 : decode cX5_requireRegister 0 = .ok (.iload_n 0, 1) := by decide +kernel
theorem dX5_requireRegister_1 : decode cX5_requireRegister 1 = .ok (.ifCond .lt 13, 3) := by decide +kernel
theorem dX5_requireRegister_4 : decode cX5_requireRegister 4 = .ok (.iload_n 0, 1) := by decide +kernel
theorem dX5_requireRegister_5 : decode cX5_requireRegister 5 = .ok (.bipush 8, 2) := by decide +kernel
theorem dX5_requireRegister_7 : decode cX5_requireRegister 7 = .ok (.if_icmp .ge 7, 3) := by decide +kernel
theorem dX5_requireRegister_10 : decode cX5_requireRegister 10 = .ok (.iconst 1, 1) := by decide +kernel
theorem dX5_requireRegister_11 : decode cX5_requireRegister 11 = .ok (.goto 4, 3) := by decide +kernel
theorem dX5_requireRegister_14 : decode cX5_requireRegister 14 = .ok (.iconst 0, 1) := by decide +kernel
theorem dX5_requireRegister_15 : decode cX5_requireRegister 15 = .ok (.invokestatic 23, 3) := by decide +kernel
theorem dX5_requireRegister_18 : decode cX5_requireRegister 18 = .ok (.return_, 1) := by decide +kernel
theorem dX5_requireArgument_0 : decode cX5_requireArgument 0 = .ok (.iload_n 0, 1) := by decide +kernel
theorem dX5_requireArgument_1 : decode cX5_requireArgument 1 = .ok (.ifCond .ne 11, 3) := by decide +kernel
theorem dX5_requireArgument_4 : decode cX5_requireArgument 4 = .ok (.new 166, 3) := by decide +kernel
theorem dX5_requireArgument_7 : decode cX5_requireArgument 7 = .ok (.dup, 1) := by decide +kernel
theorem dX5_requireArgument_8 : decode cX5_requireArgument 8 = .ok (.invokespecial 168, 3) := by decide +kernel
theorem dX5_requireArgument_11 : decode cX5_requireArgument 11 = .ok (.athrow, 1) := by decide +kernel
theorem dX5_requireArgument_12 : decode cX5_requireArgument 12 = .ok (.return_, 1) := by decide +kernel
theorem dX5_requireSupported_0 : decode cX5_requireSupported 0 = .ok (.iload_n 0, 1) := by decide +kernel
theorem dX5_requireSupported_1 : decode cX5_requireSupported 1 = .ok (.ifCond .ne 11, 3) := by decide +kernel
theorem dX5_requireSupported_4 : decode cX5_requireSupported 4 = .ok (.new 169, 3) := by decide +kernel
theorem dX5_requireSupported_7 : decode cX5_requireSupported 7 = .ok (.dup, 1) := by decide +kernel
theorem dX5_requireSupported_8 : decode cX5_requireSupported 8 = .ok (.invokespecial 171, 3) := by decide +kernel
theorem dX5_requireSupported_11 : decode cX5_requireSupported 11 = .ok (.athrow, 1) := by decide +kernel
theorem dX5_requireSupported_12 : decode cX5_requireSupported 12 = .ok (.return_, 1) := by decide +kernel
theorem dX5_requireDivisor_0 : decode cX5_requireDivisor 0 = .ok (.lload_n 0, 1) := by decide +kernel
theorem dX5_requireDivisor_1 : decode cX5_requireDivisor 1 = .ok (.lconst 0, 1) := by decide +kernel
theorem dX5_requireDivisor_2 : decode cX5_requireDivisor 2 = .ok (.lcmp, 1) := by decide +kernel
theorem dX5_requireDivisor_3 : decode cX5_requireDivisor 3 = .ok (.ifCond .ne 11, 3) := by decide +kernel
theorem dX5_requireDivisor_6 : decode cX5_requireDivisor 6 = .ok (.new 172, 3) := by decide +kernel
theorem dX5_requireDivisor_9 : decode cX5_requireDivisor 9 = .ok (.dup, 1) := by decide +kernel
theorem dX5_requireDivisor_10 : decode cX5_requireDivisor 10 = .ok (.invokespecial 174, 3) := by decide +kernel
theorem dX5_requireDivisor_13 : decode cX5_requireDivisor 13 = .ok (.athrow, 1) := by decide +kernel
theorem dX5_requireDivisor_14 : decode cX5_requireDivisor 14 = .ok (.return_, 1) := by decide +kernel
theorem dX5_requireCell_0 : decode cX5_requireCell 0 = .ok (.aload_n 0, 1) := by decide +kernel
theorem dX5_requireCell_1 : decode cX5_requireCell 1 = .ok (.ifnull 7, 3) := by decide +kernel
theorem dX5_requireCell_4 : decode cX5_requireCell 4 = .ok (.iconst 1, 1) := by decide +kernel
theorem dX5_requireCell_5 : decode cX5_requireCell 5 = .ok (.goto 4, 3) := by decide +kernel
theorem dX5_requireCell_8 : decode cX5_requireCell 8 = .ok (.iconst 0, 1) := by decide +kernel
theorem dX5_requireCell_9 : decode cX5_requireCell 9 = .ok (.invokestatic 87, 3) := by decide +kernel
theorem dX5_requireCell_12 : decode cX5_requireCell 12 = .ok (.iload_n 1, 1) := by decide +kernel
theorem dX5_requireCell_13 : decode cX5_requireCell 13 = .ok (.aload_n 0, 1) := by decide +kernel
theorem dX5_requireCell_14 : decode cX5_requireCell 14 = .ok (.arraylength, 1) := by decide +kernel
theorem dX5_requireCell_15 : decode cX5_requireCell 15 = .ok (.invokestatic 116, 3) := by decide +kernel
theorem dX5_requireCell_18 : decode cX5_requireCell 18 = .ok (.return_, 1) := by decide +kernel
theorem dX5_requirePresent_0 : decode cX5_requirePresent 0 = .ok (.iload_n 0, 1) := by decide +kernel
theorem dX5_requirePresent_1 : decode cX5_requirePresent 1 = .ok (.ifCond .ne 8, 3) := by decide +kernel
theorem dX5_requirePresent_4 : decode cX5_requirePresent 4 = .ok (.aconst_null, 1) := by decide +kernel
theorem dX5_requirePresent_5 : decode cX5_requirePresent 5 = .ok (.astore_n 1, 1) := by decide +kernel
theorem dX5_requirePresent_6 : decode cX5_requirePresent 6 = .ok (.aload_n 1, 1) := by decide +kernel
theorem dX5_requirePresent_7 : decode cX5_requirePresent 7 = .ok (.arraylength, 1) := by decide +kernel
theorem dX5_requirePresent_8 : decode cX5_requirePresent 8 = .ok (.istore_n 2, 1) := by decide +kernel
theorem dX5_requirePresent_9 : decode cX5_requirePresent 9 = .ok (.return_, 1) := by decide +kernel
theorem dX5_requireIndex_0 : decode cX5_requireIndex 0 = .ok (.iload_n 0, 1) := by decide +kernel
theorem dX5_requireIndex_1 : decode cX5_requireIndex 1 = .ok (.ifCond .lt 8, 3) := by decide +kernel
theorem dX5_requireIndex_4 : decode cX5_requireIndex 4 = .ok (.iload_n 0, 1) := by decide +kernel
theorem dX5_requireIndex_5 : decode cX5_requireIndex 5 = .ok (.iload_n 1, 1) := by decide +kernel
theorem dX5_requireIndex_6 : decode cX5_requireIndex 6 = .ok (.if_icmp .lt 9, 3) := by decide +kernel
theorem dX5_requireIndex_9 : decode cX5_requireIndex 9 = .ok (.getstatic 175, 3) := by decide +kernel
theorem dX5_requireIndex_12 : decode cX5_requireIndex 12 = .ok (.iload_n 0, 1) := by decide +kernel
theorem dX5_requireIndex_13 : decode cX5_requireIndex 13 = .ok (.iaload, 1) := by decide +kernel
theorem dX5_requireIndex_14 : decode cX5_requireIndex 14 = .ok (.istore_n 2, 1) := by decide +kernel
theorem dX5_requireIndex_15 : decode cX5_requireIndex 15 = .ok (.return_, 1) := by decide +kernel
theorem dX5_requireSize_0 : decode cX5_requireSize 0 = .ok (.iload_n 0, 1) := by decide +kernel
theorem dX5_requireSize_1 : decode cX5_requireSize 1 = .ok (.ifCond .ge 7, 3) := by decide +kernel
theorem dX5_requireSize_4 : decode cX5_requireSize 4 = .ok (.iload_n 0, 1) := by decide +kernel
theorem dX5_requireSize_5 : decode cX5_requireSize 5 = .ok (.newarray .int, 2) := by decide +kernel
theorem dX5_requireSize_7 : decode cX5_requireSize 7 = .ok (.astore_n 1, 1) := by decide +kernel
theorem dX5_requireSize_8 : decode cX5_requireSize 8 = .ok (.return_, 1) := by decide +kernel
theorem dX6_init_0 : decode cX6_init 0 = .ok (.aload_n 0, 1) := by decide +kernel
theorem dX6_init_1 : decode cX6_init 1 = .ok (.invokespecial 1, 3) := by decide +kernel
theorem dX6_init_4 : decode cX6_init 4 = .ok (.aload_n 0, 1) := by decide +kernel
theorem dX6_init_5 : decode cX6_init 5 = .ok (.bipush 8, 2) := by decide +kernel
theorem dX6_init_7 : decode cX6_init 7 = .ok (.newarray .int, 2) := by decide +kernel
theorem dX6_init_9 : decode cX6_init 9 = .ok (.putfield 7, 3) := by decide +kernel
theorem dX6_init_12 : decode cX6_init 12 = .ok (.aload_n 0, 1) := by decide +kernel
theorem dX6_init_13 : decode cX6_init 13 = .ok (.sipush 520, 3) := by decide +kernel
theorem dX6_init_16 : decode cX6_init 16 = .ok (.newarray .int, 2) := by decide +kernel
theorem dX6_init_18 : decode cX6_init 18 = .ok (.putfield 13, 3) := by decide +kernel
theorem dX6_init_21 : decode cX6_init 21 = .ok (.aload_n 0, 1) := by decide +kernel
theorem dX6_init_22 : decode cX6_init 22 = .ok (.sipush 520, 3) := by decide +kernel
theorem dX6_init_25 : decode cX6_init 25 = .ok (.newarray .int, 2) := by decide +kernel
theorem dX6_init_27 : decode cX6_init 27 = .ok (.putfield 16, 3) := by decide +kernel
theorem dX6_init_30 : decode cX6_init 30 = .ok (.aload_n 0, 1) := by decide +kernel
theorem dX6_init_31 : decode cX6_init 31 = .ok (.sipush 520, 3) := by decide +kernel
theorem dX6_init_34 : decode cX6_init 34 = .ok (.newarray .int, 2) := by decide +kernel
theorem dX6_init_36 : decode cX6_init 36 = .ok (.putfield 19, 3) := by decide +kernel
theorem dX6_init_39 : decode cX6_init 39 = .ok (.aload_n 0, 1) := by decide +kernel
theorem dX6_init_40 : decode cX6_init 40 = .ok (.sipush 520, 3) := by decide +kernel
theorem dX6_init_43 : decode cX6_init 43 = .ok (.newarray .int, 2) := by decide +kernel
theorem dX6_init_45 : decode cX6_init 45 = .ok (.putfield 22, 3) := by decide +kernel
theorem dX6_init_48 : decode cX6_init 48 = .ok (.aload_n 0, 1) := by decide +kernel
theorem dX6_init_49 : decode cX6_init 49 = .ok (.sipush 520, 3) := by decide +kernel
theorem dX6_init_52 : decode cX6_init 52 = .ok (.newarray .int, 2) := by decide +kernel
theorem dX6_init_54 : decode cX6_init 54 = .ok (.putfield 25, 3) := by decide +kernel
theorem dX6_init_57 : decode cX6_init 57 = .ok (.aload_n 0, 1) := by decide +kernel
theorem dX6_init_58 : decode cX6_init 58 = .ok (.sipush 12480, 3) := by decide +kernel
theorem dX6_init_61 : decode cX6_init 61 = .ok (.newarray .long, 2) := by decide +kernel
theorem dX6_init_63 : decode cX6_init 63 = .ok (.putfield 28, 3) := by decide +kernel
theorem dX6_init_66 : decode cX6_init 66 = .ok (.aload_n 0, 1) := by decide +kernel
theorem dX6_init_67 : decode cX6_init 67 = .ok (.sipush 3120, 3) := by decide +kernel
theorem dX6_init_70 : decode cX6_init 70 = .ok (.newarray .boolean, 2) := by decide +kernel
theorem dX6_init_72 : decode cX6_init 72 = .ok (.putfield 32, 3) := by decide +kernel
theorem dX6_init_75 : decode cX6_init 75 = .ok (.iconst 0, 1) := by decide +kernel
theorem dX6_init_76 : decode cX6_init 76 = .ok (.istore_n 1, 1) := by decide +kernel
theorem dX6_init_77 : decode cX6_init 77 = .ok (.iload_n 1, 1) := by decide +kernel
theorem dX6_init_78 : decode cX6_init 78 = .ok (.bipush 8, 2) := by decide +kernel
theorem dX6_init_80 : decode cX6_init 80 = .ok (.if_icmp .ge 16, 3) := by decide +kernel
theorem dX6_init_83 : decode cX6_init 83 = .ok (.aload_n 0, 1) := by decide +kernel
theorem dX6_init_84 : decode cX6_init 84 = .ok (.getfield 7, 3) := by decide +kernel
theorem dX6_init_87 : decode cX6_init 87 = .ok (.iload_n 1, 1) := by decide +kernel
theorem dX6_init_88 : decode cX6_init 88 = .ok (.iconst (-1), 1) := by decide +kernel
theorem dX6_init_89 : decode cX6_init 89 = .ok (.iastore, 1) := by decide +kernel
theorem dX6_init_90 : decode cX6_init 90 = .ok (.iinc 1 1, 3) := by decide +kernel
theorem dX6_init_93 : decode cX6_init 93 = .ok (.goto (-16), 3) := by decide +kernel
theorem dX6_init_96 : decode cX6_init 96 = .ok (.return_, 1) := by decide +kernel
theorem dX6_thrown_0 : decode cX6_thrown 0 = .ok (.aload_n 0, 1) := by decide +kernel
theorem dX6_thrown_1 : decode cX6_thrown 1 = .ok (.getfield 36, 3) := by decide +kernel
theorem dX6_thrown_4 : decode cX6_thrown 4 = .ok (.ireturn, 1) := by decide +kernel
theorem dX6_in_0 : decode cX6_in 0 = .ok (.iload_n 0, 1) := by decide +kernel
theorem dX6_in_1 : decode cX6_in 1 = .ok (.iload_n 1, 1) := by decide +kernel
theorem dX6_in_2 : decode cX6_in 2 = .ok (.if_icmp .lt 12, 3) := by decide +kernel
theorem dX6_in_5 : decode cX6_in 5 = .ok (.iload_n 0, 1) := by decide +kernel
theorem dX6_in_6 : decode cX6_in 6 = .ok (.iload_n 2, 1) := by decide +kernel
theorem dX6_in_7 : decode cX6_in 7 = .ok (.if_icmp .gt 7, 3) := by decide +kernel
theorem dX6_in_10 : decode cX6_in 10 = .ok (.iconst 1, 1) := by decide +kernel
theorem dX6_in_11 : decode cX6_in 11 = .ok (.goto 4, 3) := by decide +kernel
theorem dX6_in_14 : decode cX6_in 14 = .ok (.iconst 0, 1) := by decide +kernel
theorem dX6_in_15 : decode cX6_in 15 = .ok (.ireturn, 1) := by decide +kernel
theorem dX6_good_0 : decode cX6_good 0 = .ok (.aload_n 0, 1) := by decide +kernel
theorem dX6_good_1 : decode cX6_good 1 = .ok (.iload_n 1, 1) := by decide +kernel
theorem dX6_good_2 : decode cX6_good 2 = .ok (.ifCond .eq 7, 3) := by decide +kernel
theorem dX6_good_5 : decode cX6_good 5 = .ok (.iconst 0, 1) := by decide +kernel
theorem dX6_good_6 : decode cX6_good 6 = .ok (.goto 4, 3) := by decide +kernel
theorem dX6_good_9 : decode cX6_good 9 = .ok (.iload_n 2, 1) := by decide +kernel
theorem dX6_good_10 : decode cX6_good 10 = .ok (.putfield 36, 3) := by decide +kernel
theorem dX6_good_13 : decode cX6_good 13 = .ok (.iload_n 1, 1) := by decide +kernel
theorem dX6_good_14 : decode cX6_good 14 = .ok (.ireturn, 1) := by decide +kernel
theorem dX6_known_0 : decode cX6_known 0 = .ok (.aload_n 0, 1) := by decide +kernel
theorem dX6_known_1 : decode cX6_known 1 = .ok (.iload_n 1, 1) := by decide +kernel
theorem dX6_known_2 : decode cX6_known 2 = .ok (.iconst 0, 1) := by decide +kernel
theorem dX6_known_3 : decode cX6_known 3 = .ok (.bipush 7, 2) := by decide +kernel
theorem dX6_known_5 : decode cX6_known 5 = .ok (.invokestatic 40, 3) := by decide +kernel
theorem dX6_known_8 : decode cX6_known 8 = .ok (.ifCond .eq 17, 3) := by decide +kernel
theorem dX6_known_11 : decode cX6_known 11 = .ok (.iload_n 2, 1) := by decide +kernel
theorem dX6_known_12 : decode cX6_known 12 = .ok (.iconst 0, 1) := by decide +kernel
theorem dX6_known_13 : decode cX6_known 13 = .ok (.bipush 7, 2) := by decide +kernel
theorem dX6_known_15 : decode cX6_known 15 = .ok (.invokestatic 40, 3) := by decide +kernel
theorem dX6_known_18 : decode cX6_known 18 = .ok (.ifCond .eq 7, 3) := by decide +kernel
theorem dX6_known_21 : decode cX6_known 21 = .ok (.iconst 1, 1) := by decide +kernel
theorem dX6_known_22 : decode cX6_known 22 = .ok (.goto 4, 3) := by decide +kernel
theorem dX6_known_25 : decode cX6_known 25 = .ok (.iconst 0, 1) := by decide +kernel
theorem dX6_known_26 : decode cX6_known 26 = .ok (.iconst 1, 1) := by decide +kernel
theorem dX6_known_27 : decode cX6_known 27 = .ok (.invokevirtual 44, 3) := by decide +kernel
theorem dX6_known_30 : decode cX6_known 30 = .ok (.ireturn, 1) := by decide +kernel
theorem dX6_fresh_0 : decode cX6_fresh 0 = .ok (.aload_n 0, 1) := by decide +kernel
theorem dX6_fresh_1 : decode cX6_fresh 1 = .ok (.getfield 48, 3) := by decide +kernel
theorem dX6_fresh_4 : decode cX6_fresh 4 = .ok (.istore 4, 2) := by decide +kernel
theorem dX6_fresh_6 : decode cX6_fresh 6 = .ok (.aload_n 0, 1) := by decide +kernel
theorem dX6_fresh_7 : decode cX6_fresh 7 = .ok (.dup, 1) := by decide +kernel
theorem dX6_fresh_8 : decode cX6_fresh 8 = .ok (.getfield 48, 3) := by decide +kernel
theorem dX6_fresh_11 : decode cX6_fresh 11 = .ok (.iconst 1, 1) := by decide +kernel
theorem dX6_fresh_12 : decode cX6_fresh 12 = .ok (.iadd, 1) := by decide +kernel
theorem dX6_fresh_13 : decode cX6_fresh 13 = .ok (.putfield 48, 3) := by decide +kernel
theorem dX6_fresh_16 : decode cX6_fresh 16 = .ok (.aload_n 0, 1) := by decide +kernel
theorem dX6_fresh_17 : decode cX6_fresh 17 = .ok (.getfield 13, 3) := by decide +kernel
theorem dX6_fresh_20 : decode cX6_fresh 20 = .ok (.iload 4, 2) := by decide +kernel
theorem dX6_fresh_22 : decode cX6_fresh 22 = .ok (.iload_n 2, 1) := by decide +kernel
theorem dX6_fresh_23 : decode cX6_fresh 23 = .ok (.iastore, 1) := by decide +kernel
theorem dX6_fresh_24 : decode cX6_fresh 24 = .ok (.aload_n 0, 1) := by decide +kernel
theorem dX6_fresh_25 : decode cX6_fresh 25 = .ok (.getfield 16, 3) := by decide +kernel
theorem dX6_fresh_28 : decode cX6_fresh 28 = .ok (.iload 4, 2) := by decide +kernel
theorem dX6_fresh_30 : decode cX6_fresh 30 = .ok (.iload_n 3, 1) := by decide +kernel
theorem dX6_fresh_31 : decode cX6_fresh 31 = .ok (.iastore, 1) := by decide +kernel
theorem dX6_fresh_32 : decode cX6_fresh 32 = .ok (.iconst 0, 1) := by decide +kernel
theorem dX6_fresh_33 : decode cX6_fresh 33 = .ok (.istore 5, 2) := by decide +kernel
theorem dX6_fresh_35 : decode cX6_fresh 35 = .ok (.iload 5, 2) := by decide +kernel
theorem dX6_fresh_37 : decode cX6_fresh 37 = .ok (.bipush 24, 2) := by decide +kernel
theorem dX6_fresh_39 : decode cX6_fresh 39 = .ok (.if_icmp .ge 47, 3) := by decide +kernel
theorem dX6_fresh_42 : decode cX6_fresh 42 = .ok (.aload_n 0, 1) := by decide +kernel
theorem dX6_fresh_43 : decode cX6_fresh 43 = .ok (.getfield 28, 3) := by decide +kernel
theorem dX6_fresh_46 : decode cX6_fresh 46 = .ok (.bipush 24, 2) := by decide +kernel
theorem dX6_fresh_48 : decode cX6_fresh 48 = .ok (.iload 4, 2) := by decide +kernel
theorem dX6_fresh_50 : decode cX6_fresh 50 = .ok (.imul, 1) := by decide +kernel
theorem dX6_fresh_51 : decode cX6_fresh 51 = .ok (.iload 5, 2) := by decide +kernel
theorem dX6_fresh_53 : decode cX6_fresh 53 = .ok (.iadd, 1) := by decide +kernel
theorem dX6_fresh_54 : decode cX6_fresh 54 = .ok (.iload_n 2, 1) := by decide +kernel
theorem dX6_fresh_55 : decode cX6_fresh 55 = .ok (.bipush 8, 2) := by decide +kernel
theorem dX6_fresh_57 : decode cX6_fresh 57 = .ok (.if_icmp .eq 15, 3) := by decide +kernel
theorem dX6_fresh_60 : decode cX6_fresh 60 = .ok (.iload_n 2, 1) := by decide +kernel
theorem dX6_fresh_61 : decode cX6_fresh 61 = .ok (.bipush 10, 2) := by decide +kernel
theorem dX6_fresh_63 : decode cX6_fresh 63 = .ok (.if_icmp .ne 15, 3) := by decide +kernel
theorem dX6_fresh_66 : decode cX6_fresh 66 = .ok (.iload 5, 2) := by decide +kernel
theorem dX6_fresh_68 : decode cX6_fresh 68 = .ok (.iconst 1, 1) := by decide +kernel
theorem dX6_fresh_69 : decode cX6_fresh 69 = .ok (.if_icmp .ne 9, 3) := by decide +kernel
theorem dX6_fresh_72 : decode cX6_fresh 72 = .ok (.ldc2_w 51, 3) := by decide +kernel
theorem dX6_fresh_75 : decode cX6_fresh 75 = .ok (.goto 4, 3) := by decide +kernel
theorem dX6_fresh_78 : decode cX6_fresh 78 = .ok (.lconst 0, 1) := by decide +kernel
theorem dX6_fresh_79 : decode cX6_fresh 79 = .ok (.lastore, 1) := by decide +kernel
theorem dX6_fresh_80 : decode cX6_fresh 80 = .ok (.iinc 5 1, 3) := by decide +kernel
theorem dX6_fresh_83 : decode cX6_fresh 83 = .ok (.goto (-48), 3) := by decide +kernel
theorem dX6_fresh_86 : decode cX6_fresh 86 = .ok (.iconst 0, 1) := by decide +kernel
theorem dX6_fresh_87 : decode cX6_fresh 87 = .ok (.istore 5, 2) := by decide +kernel
theorem dX6_fresh_89 : decode cX6_fresh 89 = .ok (.iload 5, 2) := by decide +kernel
theorem dX6_fresh_91 : decode cX6_fresh 91 = .ok (.bipush 6, 2) := by decide +kernel
theorem dX6_fresh_93 : decode cX6_fresh 93 = .ok (.if_icmp .ge 23, 3) := by decide +kernel
theorem dX6_fresh_96 : decode cX6_fresh 96 = .ok (.aload_n 0, 1) := by decide +kernel
theorem dX6_fresh_97 : decode cX6_fresh 97 = .ok (.getfield 32, 3) := by decide +kernel
theorem dX6_fresh_100 : decode cX6_fresh 100 = .ok (.bipush 6, 2) := by decide +kernel
theorem dX6_fresh_102 : decode cX6_fresh 102 = .ok (.iload 4, 2) := by decide +kernel
theorem dX6_fresh_104 : decode cX6_fresh 104 = .ok (.imul, 1) := by decide +kernel
theorem dX6_fresh_105 : decode cX6_fresh 105 = .ok (.iload 5, 2) := by decide +kernel
theorem dX6_fresh_107 : decode cX6_fresh 107 = .ok (.iadd, 1) := by decide +kernel
theorem dX6_fresh_108 : decode cX6_fresh 108 = .ok (.iconst 0, 1) := by decide +kernel
theorem dX6_fresh_109 : decode cX6_fresh 109 = .ok (.bastore, 1) := by decide +kernel
theorem dX6_fresh_110 : decode cX6_fresh 110 = .ok (.iinc 5 1, 3) := by decide +kernel
theorem dX6_fresh_113 : decode cX6_fresh 113 = .ok (.goto (-24), 3) := by decide +kernel
theorem dX6_fresh_116 : decode cX6_fresh 116 = .ok (.aload_n 0, 1) := by decide +kernel
theorem dX6_fresh_117 : decode cX6_fresh 117 = .ok (.getfield 7, 3) := by decide +kernel
theorem dX6_fresh_120 : decode cX6_fresh 120 = .ok (.iload_n 1, 1) := by decide +kernel
theorem dX6_fresh_121 : decode cX6_fresh 121 = .ok (.iload 4, 2) := by decide +kernel
theorem dX6_fresh_123 : decode cX6_fresh 123 = .ok (.iastore, 1) := by decide +kernel
theorem dX6_fresh_124 : decode cX6_fresh 124 = .ok (.aload_n 0, 1) := by decide +kernel
theorem dX6_fresh_125 : decode cX6_fresh 125 = .ok (.getfield 48, 3) := by decide +kernel
theorem dX6_fresh_128 : decode cX6_fresh 128 = .ok (.ireturn, 1) := by decide +kernel
theorem dX6_make_0 : decode cX6_make 0 = .ok (.aload_n 0, 1) := by decide +kernel
theorem dX6_make_1 : decode cX6_make 1 = .ok (.iload_n 1, 1) := by decide +kernel
theorem dX6_make_2 : decode cX6_make 2 = .ok (.iconst 0, 1) := by decide +kernel
theorem dX6_make_3 : decode cX6_make 3 = .ok (.bipush 7, 2) := by decide +kernel
theorem dX6_make_5 : decode cX6_make 5 = .ok (.invokestatic 40, 3) := by decide +kernel
theorem dX6_make_8 : decode cX6_make 8 = .ok (.ifCond .eq 23, 3) := by decide +kernel
theorem dX6_make_11 : decode cX6_make 11 = .ok (.iload_n 2, 1) := by decide +kernel
theorem dX6_make_12 : decode cX6_make 12 = .ok (.iconst 0, 1) := by decide +kernel
theorem dX6_make_13 : decode cX6_make 13 = .ok (.bipush 8, 2) := by decide +kernel
theorem dX6_make_15 : decode cX6_make 15 = .ok (.invokestatic 40, 3) := by decide +kernel
theorem dX6_make_18 : decode cX6_make 18 = .ok (.ifCond .eq 13, 3) := by decide +kernel
theorem dX6_make_21 : decode cX6_make 21 = .ok (.iload_n 3, 1) := by decide +kernel
theorem dX6_make_22 : decode cX6_make 22 = .ok (.bipush 24, 2) := by decide +kernel
theorem dX6_make_24 : decode cX6_make 24 = .ok (.if_icmp .gt 7, 3) := by decide +kernel
theorem dX6_make_27 : decode cX6_make 27 = .ok (.iconst 1, 1) := by decide +kernel
theorem dX6_make_28 : decode cX6_make 28 = .ok (.goto 4, 3) := by decide +kernel
theorem dX6_make_31 : decode cX6_make 31 = .ok (.iconst 0, 1) := by decide +kernel
theorem dX6_make_32 : decode cX6_make 32 = .ok (.iconst 1, 1) := by decide +kernel
theorem dX6_make_33 : decode cX6_make 33 = .ok (.invokevirtual 44, 3) := by decide +kernel
theorem dX6_make_36 : decode cX6_make 36 = .ok (.ifCond .eq 20, 3) := by decide +kernel
theorem dX6_make_39 : decode cX6_make 39 = .ok (.aload_n 0, 1) := by decide +kernel
theorem dX6_make_40 : decode cX6_make 40 = .ok (.iload_n 3, 1) := by decide +kernel
theorem dX6_make_41 : decode cX6_make 41 = .ok (.ifCond .lt 7, 3) := by decide +kernel
theorem dX6_make_44 : decode cX6_make 44 = .ok (.iconst 1, 1) := by decide +kernel
theorem dX6_make_45 : decode cX6_make 45 = .ok (.goto 4, 3) := by decide +kernel
theorem dX6_make_48 : decode cX6_make 48 = .ok (.iconst 0, 1) := by decide +kernel
theorem dX6_make_49 : decode cX6_make 49 = .ok (.iconst 2, 1) := by decide +kernel
theorem dX6_make_50 : decode cX6_make 50 = .ok (.invokevirtual 44, 3) := by decide +kernel
theorem dX6_make_53 : decode cX6_make 53 = .ok (.ifCond .ne 5, 3) := by decide +kernel
theorem dX6_make_56 : decode cX6_make 56 = .ok (.iconst 0, 1) := by decide +kernel
theorem dX6_make_57 : decode cX6_make 57 = .ok (.ireturn, 1) := by decide +kernel
theorem dX6_make_58 : decode cX6_make 58 = .ok (.aload_n 0, 1) := by decide +kernel
theorem dX6_make_59 : decode cX6_make 59 = .ok (.iload_n 1, 1) := by decide +kernel
theorem dX6_make_60 : decode cX6_make 60 = .ok (.iload_n 2, 1) := by decide +kernel
theorem dX6_make_61 : decode cX6_make 61 = .ok (.iload_n 3, 1) := by decide +kernel
theorem dX6_make_62 : decode cX6_make 62 = .ok (.invokevirtual 53, 3) := by decide +kernel
theorem dX6_make_65 : decode cX6_make 65 = .ok (.ireturn, 1) := by decide +kernel
theorem dX6_grid_0 : decode cX6_grid 0 = .ok (.aload_n 0, 1) := by decide +kernel
theorem dX6_grid_1 : decode cX6_grid 1 = .ok (.iload_n 1, 1) := by decide +kernel
theorem dX6_grid_2 : decode cX6_grid 2 = .ok (.iconst 0, 1) := by decide +kernel
theorem dX6_grid_3 : decode cX6_grid 3 = .ok (.bipush 7, 2) := by decide +kernel
theorem dX6_grid_5 : decode cX6_grid 5 = .ok (.invokestatic 40, 3) := by decide +kernel
theorem dX6_grid_8 : decode cX6_grid 8 = .ok (.ifCond .eq 18, 3) := by decide +kernel
theorem dX6_grid_11 : decode cX6_grid 11 = .ok (.iload_n 2, 1) := by decide +kernel
theorem dX6_grid_12 : decode cX6_grid 12 = .ok (.bipush 6, 2) := by decide +kernel
theorem dX6_grid_14 : decode cX6_grid 14 = .ok (.if_icmp .gt 12, 3) := by decide +kernel
theorem dX6_grid_17 : decode cX6_grid 17 = .ok (.iload_n 3, 1) := by decide +kernel
theorem dX6_grid_18 : decode cX6_grid 18 = .ok (.iconst 4, 1) := by decide +kernel
theorem dX6_grid_19 : decode cX6_grid 19 = .ok (.if_icmp .gt 7, 3) := by decide +kernel
theorem dX6_grid_22 : decode cX6_grid 22 = .ok (.iconst 1, 1) := by decide +kernel
theorem dX6_grid_23 : decode cX6_grid 23 = .ok (.goto 4, 3) := by decide +kernel
theorem dX6_grid_26 : decode cX6_grid 26 = .ok (.iconst 0, 1) := by decide +kernel
theorem dX6_grid_27 : decode cX6_grid 27 = .ok (.iconst 1, 1) := by decide +kernel
theorem dX6_grid_28 : decode cX6_grid 28 = .ok (.invokevirtual 44, 3) := by decide +kernel
theorem dX6_grid_31 : decode cX6_grid 31 = .ok (.ifCond .eq 24, 3) := by decide +kernel
theorem dX6_grid_34 : decode cX6_grid 34 = .ok (.aload_n 0, 1) := by decide +kernel
theorem dX6_grid_35 : decode cX6_grid 35 = .ok (.iload_n 2, 1) := by decide +kernel
theorem dX6_grid_36 : decode cX6_grid 36 = .ok (.ifCond .lt 11, 3) := by decide +kernel
theorem dX6_grid_39 : decode cX6_grid 39 = .ok (.iload_n 3, 1) := by decide +kernel
theorem dX6_grid_40 : decode cX6_grid 40 = .ok (.ifCond .lt 7, 3) := by decide +kernel
theorem dX6_grid_43 : decode cX6_grid 43 = .ok (.iconst 1, 1) := by decide +kernel
theorem dX6_grid_44 : decode cX6_grid 44 = .ok (.goto 4, 3) := by decide +kernel
theorem dX6_grid_47 : decode cX6_grid 47 = .ok (.iconst 0, 1) := by decide +kernel
theorem dX6_grid_48 : decode cX6_grid 48 = .ok (.iconst 2, 1) := by decide +kernel
theorem dX6_grid_49 : decode cX6_grid 49 = .ok (.invokevirtual 44, 3) := by decide +kernel
theorem dX6_grid_52 : decode cX6_grid 52 = .ok (.ifCond .ne 5, 3) := by decide +kernel
theorem dX6_grid_55 : decode cX6_grid 55 = .ok (.iconst 0, 1) := by decide +kernel
theorem dX6_grid_56 : decode cX6_grid 56 = .ok (.ireturn, 1) := by decide +kernel
theorem dX6_grid_57 : decode cX6_grid 57 = .ok (.aload_n 0, 1) := by decide +kernel
theorem dX6_grid_58 : decode cX6_grid 58 = .ok (.iload_n 1, 1) := by decide +kernel
theorem dX6_grid_59 : decode cX6_grid 59 = .ok (.bipush 9, 2) := by decide +kernel
theorem dX6_grid_61 : decode cX6_grid 61 = .ok (.iload_n 2, 1) := by decide +kernel
theorem dX6_grid_62 : decode cX6_grid 62 = .ok (.invokevirtual 53, 3) := by decide +kernel
theorem dX6_grid_65 : decode cX6_grid 65 = .ok (.istore 4, 2) := by decide +kernel
theorem dX6_grid_67 : decode cX6_grid 67 = .ok (.aload_n 0, 1) := by decide +kernel
theorem dX6_grid_68 : decode cX6_grid 68 = .ok (.getfield 19, 3) := by decide +kernel
theorem dX6_grid_71 : decode cX6_grid 71 = .ok (.iload 4, 2) := by decide +kernel
theorem dX6_grid_73 : decode cX6_grid 73 = .ok (.iconst 1, 1) := by decide +kernel
theorem dX6_grid_74 : decode cX6_grid 74 = .ok (.isub, 1) := by decide +kernel
theorem dX6_grid_75 : decode cX6_grid 75 = .ok (.iload_n 3, 1) := by decide +kernel
theorem dX6_grid_76 : decode cX6_grid 76 = .ok (.iastore, 1) := by decide +kernel
theorem dX6_grid_77 : decode cX6_grid 77 = .ok (.iload 4, 2) := by decide +kernel
theorem dX6_grid_79 : decode cX6_grid 79 = .ok (.ireturn, 1) := by decide +kernel
theorem dX6_record_0 : decode cX6_record 0 = .ok (.aload_n 0, 1) := by decide +kernel
theorem dX6_record_1 : decode cX6_record 1 = .ok (.iload_n 1, 1) := by decide +kernel
theorem dX6_record_2 : decode cX6_record 2 = .ok (.iconst 0, 1) := by decide +kernel
theorem dX6_record_3 : decode cX6_record 3 = .ok (.bipush 7, 2) := by decide +kernel
theorem dX6_record_5 : decode cX6_record 5 = .ok (.invokestatic 40, 3) := by decide +kernel
theorem dX6_record_8 : decode cX6_record 8 = .ok (.iconst 1, 1) := by decide +kernel
theorem dX6_record_9 : decode cX6_record 9 = .ok (.invokevirtual 44, 3) := by decide +kernel
theorem dX6_record_12 : decode cX6_record 12 = .ok (.ifCond .ne 5, 3) := by decide +kernel
theorem dX6_record_15 : decode cX6_record 15 = .ok (.iconst 0, 1) := by decide +kernel
theorem dX6_record_16 : decode cX6_record 16 = .ok (.ireturn, 1) := by decide +kernel
theorem dX6_record_17 : decode cX6_record 17 = .ok (.aload_n 0, 1) := by decide +kernel
theorem dX6_record_18 : decode cX6_record 18 = .ok (.iload_n 1, 1) := by decide +kernel
theorem dX6_record_19 : decode cX6_record 19 = .ok (.bipush 10, 2) := by decide +kernel
theorem dX6_record_21 : decode cX6_record 21 = .ok (.iconst 0, 1) := by decide +kernel
theorem dX6_record_22 : decode cX6_record 22 = .ok (.invokevirtual 53, 3) := by decide +kernel
theorem dX6_record_25 : decode cX6_record 25 = .ok (.ireturn, 1) := by decide +kernel
theorem dX6_bottom_0 : decode cX6_bottom 0 = .ok (.iload_n 1, 1) := by decide +kernel
theorem dX6_bottom_1 : decode cX6_bottom 1 = .ok (.istore_n 2, 1) := by decide +kernel
theorem dX6_bottom_2 : decode cX6_bottom 2 = .ok (.aload_n 0, 1) := by decide +kernel
theorem dX6_bottom_3 : decode cX6_bottom 3 = .ok (.getfield 13, 3) := by decide +kernel
theorem dX6_bottom_6 : decode cX6_bottom 6 = .ok (.iload_n 2, 1) := by decide +kernel
theorem dX6_bottom_7 : decode cX6_bottom 7 = .ok (.iaload, 1) := by decide +kernel
theorem dX6_bottom_8 : decode cX6_bottom 8 = .ok (.bipush 11, 2) := by decide +kernel
theorem dX6_bottom_10 : decode cX6_bottom 10 = .ok (.if_icmp .ne 13, 3) := by decide +kernel
theorem dX6_bottom_13 : decode cX6_bottom 13 = .ok (.aload_n 0, 1) := by decide +kernel
theorem dX6_bottom_14 : decode cX6_bottom 14 = .ok (.getfield 22, 3) := by decide +kernel
theorem dX6_bottom_17 : decode cX6_bottom 17 = .ok (.iload_n 2, 1) := by decide +kernel
theorem dX6_bottom_18 : decode cX6_bottom 18 = .ok (.iaload, 1) := by decide +kernel
theorem dX6_bottom_19 : decode cX6_bottom 19 = .ok (.istore_n 2, 1) := by decide +kernel
theorem dX6_bottom_20 : decode cX6_bottom 20 = .ok (.goto (-18), 3) := by decide +kernel
theorem dX6_bottom_23 : decode cX6_bottom 23 = .ok (.iload_n 2, 1) := by decide +kernel
theorem dX6_bottom_24 : decode cX6_bottom 24 = .ok (.ireturn, 1) := by decide +kernel
theorem dX6_sort_0 : decode cX6_sort 0 = .ok (.aload_n 0, 1) := by decide +kernel
theorem dX6_sort_1 : decode cX6_sort 1 = .ok (.getfield 13, 3) := by decide +kernel
theorem dX6_sort_4 : decode cX6_sort 4 = .ok (.aload_n 0, 1) := by decide +kernel
theorem dX6_sort_5 : decode cX6_sort 5 = .ok (.iload_n 1, 1) := by decide +kernel
theorem dX6_sort_6 : decode cX6_sort 6 = .ok (.invokevirtual 57, 3) := by decide +kernel
theorem dX6_sort_9 : decode cX6_sort 9 = .ok (.iaload, 1) := by decide +kernel
theorem dX6_sort_10 : decode cX6_sort 10 = .ok (.ireturn, 1) := by decide +kernel
theorem dX6_windows_0 : decode cX6_windows 0 = .ok (.iconst 0, 1) := by decide +kernel
theorem dX6_windows_1 : decode cX6_windows 1 = .ok (.istore_n 2, 1) := by decide +kernel
theorem dX6_windows_2 : decode cX6_windows 2 = .ok (.iload_n 1, 1) := by decide +kernel
theorem dX6_windows_3 : decode cX6_windows 3 = .ok (.istore_n 3, 1) := by decide +kernel
theorem dX6_windows_4 : decode cX6_windows 4 = .ok (.aload_n 0, 1) := by decide +kernel
theorem dX6_windows_5 : decode cX6_windows 5 = .ok (.getfield 13, 3) := by decide +kernel
theorem dX6_windows_8 : decode cX6_windows 8 = .ok (.iload_n 3, 1) := by decide +kernel
theorem dX6_windows_9 : decode cX6_windows 9 = .ok (.iaload, 1) := by decide +kernel
theorem dX6_windows_10 : decode cX6_windows 10 = .ok (.bipush 11, 2) := by decide +kernel
theorem dX6_windows_12 : decode cX6_windows 12 = .ok (.if_icmp .ne 16, 3) := by decide +kernel
theorem dX6_windows_15 : decode cX6_windows 15 = .ok (.iinc 2 1, 3) := by decide +kernel
theorem dX6_windows_18 : decode cX6_windows 18 = .ok (.aload_n 0, 1) := by decide +kernel
theorem dX6_windows_19 : decode cX6_windows 19 = .ok (.getfield 22, 3) := by decide +kernel
theorem dX6_windows_22 : decode cX6_windows 22 = .ok (.iload_n 3, 1) := by decide +kernel
theorem dX6_windows_23 : decode cX6_windows 23 = .ok (.iaload, 1) := by decide +kernel
theorem dX6_windows_24 : decode cX6_windows 24 = .ok (.istore_n 3, 1) := by decide +kernel
theorem dX6_windows_25 : decode cX6_windows 25 = .ok (.goto (-21), 3) := by decide +kernel
theorem dX6_windows_28 : decode cX6_windows 28 = .ok (.iload_n 2, 1) := by decide +kernel
theorem dX6_windows_29 : decode cX6_windows 29 = .ok (.ireturn, 1) := by decide +kernel
theorem dX6_window_0 : decode cX6_window 0 = .ok (.aload_n 0, 1) := by decide +kernel
theorem dX6_window_1 : decode cX6_window 1 = .ok (.iload_n 1, 1) := by decide +kernel
theorem dX6_window_2 : decode cX6_window 2 = .ok (.iload_n 2, 1) := by decide +kernel
theorem dX6_window_3 : decode cX6_window 3 = .ok (.invokevirtual 61, 3) := by decide +kernel
theorem dX6_window_6 : decode cX6_window 6 = .ok (.ifCond .ne 5, 3) := by decide +kernel
theorem dX6_window_9 : decode cX6_window 9 = .ok (.iconst 0, 1) := by decide +kernel
theorem dX6_window_10 : decode cX6_window 10 = .ok (.ireturn, 1) := by decide +kernel
theorem dX6_window_11 : decode cX6_window 11 = .ok (.aload_n 0, 1) := by decide +kernel
theorem dX6_window_12 : decode cX6_window 12 = .ok (.getfield 7, 3) := by decide +kernel
theorem dX6_window_15 : decode cX6_window 15 = .ok (.iload_n 2, 1) := by decide +kernel
theorem dX6_window_16 : decode cX6_window 16 = .ok (.iaload, 1) := by decide +kernel
theorem dX6_window_17 : decode cX6_window 17 = .ok (.istore 4, 2) := by decide +kernel
theorem dX6_window_19 : decode cX6_window 19 = .ok (.aload_n 0, 1) := by decide +kernel
theorem dX6_window_20 : decode cX6_window 20 = .ok (.iload 4, 2) := by decide +kernel
theorem dX6_window_22 : decode cX6_window 22 = .ok (.ifCond .lt 7, 3) := by decide +kernel
theorem dX6_window_25 : decode cX6_window 25 = .ok (.iconst 1, 1) := by decide +kernel
theorem dX6_window_26 : decode cX6_window 26 = .ok (.goto 4, 3) := by decide +kernel
theorem dX6_window_29 : decode cX6_window 29 = .ok (.iconst 0, 1) := by decide +kernel
theorem dX6_window_30 : decode cX6_window 30 = .ok (.iconst 2, 1) := by decide +kernel
theorem dX6_window_31 : decode cX6_window 31 = .ok (.invokevirtual 44, 3) := by decide +kernel
theorem dX6_window_34 : decode cX6_window 34 = .ok (.ifCond .eq 64, 3) := by decide +kernel
theorem dX6_window_37 : decode cX6_window 37 = .ok (.aload_n 0, 1) := by decide +kernel
theorem dX6_window_38 : decode cX6_window 38 = .ok (.aload_n 0, 1) := by decide +kernel
theorem dX6_window_39 : decode cX6_window 39 = .ok (.getfield 13, 3) := by decide +kernel
theorem dX6_window_42 : decode cX6_window 42 = .ok (.iload 4, 2) := by decide +kernel
theorem dX6_window_44 : decode cX6_window 44 = .ok (.iaload, 1) := by decide +kernel
theorem dX6_window_45 : decode cX6_window 45 = .ok (.bipush 9, 2) := by decide +kernel
theorem dX6_window_47 : decode cX6_window 47 = .ok (.if_icmp .eq 19, 3) := by decide +kernel
theorem dX6_window_50 : decode cX6_window 50 = .ok (.aload_n 0, 1) := by decide +kernel
theorem dX6_window_51 : decode cX6_window 51 = .ok (.getfield 13, 3) := by decide +kernel
theorem dX6_window_54 : decode cX6_window 54 = .ok (.iload 4, 2) := by decide +kernel
theorem dX6_window_56 : decode cX6_window 56 = .ok (.iaload, 1) := by decide +kernel
theorem dX6_window_57 : decode cX6_window 57 = .ok (.bipush 10, 2) := by decide +kernel
theorem dX6_window_59 : decode cX6_window 59 = .ok (.if_icmp .eq 7, 3) := by decide +kernel
theorem dX6_window_62 : decode cX6_window 62 = .ok (.iconst 1, 1) := by decide +kernel
theorem dX6_window_63 : decode cX6_window 63 = .ok (.goto 4, 3) := by decide +kernel
theorem dX6_window_66 : decode cX6_window 66 = .ok (.iconst 0, 1) := by decide +kernel
theorem dX6_window_67 : decode cX6_window 67 = .ok (.iconst 3, 1) := by decide +kernel
theorem dX6_window_68 : decode cX6_window 68 = .ok (.invokevirtual 44, 3) := by decide +kernel
theorem dX6_window_71 : decode cX6_window 71 = .ok (.ifCond .eq 27, 3) := by decide +kernel
theorem dX6_window_74 : decode cX6_window 74 = .ok (.aload_n 0, 1) := by decide +kernel
theorem dX6_window_75 : decode cX6_window 75 = .ok (.aload_n 0, 1) := by decide +kernel
theorem dX6_window_76 : decode cX6_window 76 = .ok (.iload 4, 2) := by decide +kernel
theorem dX6_window_78 : decode cX6_window 78 = .ok (.invokevirtual 65, 3) := by decide +kernel
theorem dX6_window_81 : decode cX6_window 81 = .ok (.bipush 6, 2) := by decide +kernel
theorem dX6_window_83 : decode cX6_window 83 = .ok (.if_icmp .ge 7, 3) := by decide +kernel
theorem dX6_window_86 : decode cX6_window 86 = .ok (.iconst 1, 1) := by decide +kernel
theorem dX6_window_87 : decode cX6_window 87 = .ok (.goto 4, 3) := by decide +kernel
theorem dX6_window_90 : decode cX6_window 90 = .ok (.iconst 0, 1) := by decide +kernel
theorem dX6_window_91 : decode cX6_window 91 = .ok (.iconst 4, 1) := by decide +kernel
theorem dX6_window_92 : decode cX6_window 92 = .ok (.invokevirtual 44, 3) := by decide +kernel
theorem dX6_window_95 : decode cX6_window 95 = .ok (.ifCond .ne 5, 3) := by decide +kernel
theorem dX6_window_98 : decode cX6_window 98 = .ok (.iconst 0, 1) := by decide +kernel
theorem dX6_window_99 : decode cX6_window 99 = .ok (.ireturn, 1) := by decide +kernel
theorem dX6_window_100 : decode cX6_window 100 = .ok (.aload_n 0, 1) := by decide +kernel
theorem dX6_window_101 : decode cX6_window 101 = .ok (.iload_n 1, 1) := by decide +kernel
theorem dX6_window_102 : decode cX6_window 102 = .ok (.bipush 11, 2) := by decide +kernel
theorem dX6_window_104 : decode cX6_window 104 = .ok (.iconst 0, 1) := by decide +kernel
theorem dX6_window_105 : decode cX6_window 105 = .ok (.invokevirtual 53, 3) := by decide +kernel
theorem dX6_window_108 : decode cX6_window 108 = .ok (.istore 5, 2) := by decide +kernel
theorem dX6_window_110 : decode cX6_window 110 = .ok (.aload_n 0, 1) := by decide +kernel
theorem dX6_window_111 : decode cX6_window 111 = .ok (.getfield 22, 3) := by decide +kernel
theorem dX6_window_114 : decode cX6_window 114 = .ok (.iload 5, 2) := by decide +kernel
theorem dX6_window_116 : decode cX6_window 116 = .ok (.iconst 1, 1) := by decide +kernel
theorem dX6_window_117 : decode cX6_window 117 = .ok (.isub, 1) := by decide +kernel
theorem dX6_window_118 : decode cX6_window 118 = .ok (.iload 4, 2) := by decide +kernel
theorem dX6_window_120 : decode cX6_window 120 = .ok (.iastore, 1) := by decide +kernel
theorem dX6_window_121 : decode cX6_window 121 = .ok (.aload_n 0, 1) := by decide +kernel
theorem dX6_window_122 : decode cX6_window 122 = .ok (.getfield 25, 3) := by decide +kernel
theorem dX6_window_125 : decode cX6_window 125 = .ok (.iload 5, 2) := by decide +kernel
theorem dX6_window_127 : decode cX6_window 127 = .ok (.iconst 1, 1) := by decide +kernel
theorem dX6_window_128 : decode cX6_window 128 = .ok (.isub, 1) := by decide +kernel
theorem dX6_window_129 : decode cX6_window 129 = .ok (.iload_n 3, 1) := by decide +kernel
theorem dX6_window_130 : decode cX6_window 130 = .ok (.iastore, 1) := by decide +kernel
theorem dX6_window_131 : decode cX6_window 131 = .ok (.iload 5, 2) := by decide +kernel
theorem dX6_window_133 : decode cX6_window 133 = .ok (.ireturn, 1) := by decide +kernel
theorem dX6_copy_0 : decode cX6_copy 0 = .ok (.aload_n 0, 1) := by decide +kernel
theorem dX6_copy_1 : decode cX6_copy 1 = .ok (.iload_n 1, 1) := by decide +kernel
theorem dX6_copy_2 : decode cX6_copy 2 = .ok (.iconst 0, 1) := by decide +kernel
theorem dX6_copy_3 : decode cX6_copy 3 = .ok (.bipush 7, 2) := by decide +kernel
theorem dX6_copy_5 : decode cX6_copy 5 = .ok (.invokestatic 40, 3) := by decide +kernel
theorem dX6_copy_8 : decode cX6_copy 8 = .ok (.ifCond .eq 17, 3) := by decide +kernel
theorem dX6_copy_11 : decode cX6_copy 11 = .ok (.iload_n 2, 1) := by decide +kernel
theorem dX6_copy_12 : decode cX6_copy 12 = .ok (.iconst (-1), 1) := by decide +kernel
theorem dX6_copy_13 : decode cX6_copy 13 = .ok (.bipush 7, 2) := by decide +kernel
theorem dX6_copy_15 : decode cX6_copy 15 = .ok (.invokestatic 40, 3) := by decide +kernel
theorem dX6_copy_18 : decode cX6_copy 18 = .ok (.ifCond .eq 7, 3) := by decide +kernel
theorem dX6_copy_21 : decode cX6_copy 21 = .ok (.iconst 1, 1) := by decide +kernel
theorem dX6_copy_22 : decode cX6_copy 22 = .ok (.goto 4, 3) := by decide +kernel
theorem dX6_copy_25 : decode cX6_copy 25 = .ok (.iconst 0, 1) := by decide +kernel
theorem dX6_copy_26 : decode cX6_copy 26 = .ok (.iconst 1, 1) := by decide +kernel
theorem dX6_copy_27 : decode cX6_copy 27 = .ok (.invokevirtual 44, 3) := by decide +kernel
theorem dX6_copy_30 : decode cX6_copy 30 = .ok (.ifCond .ne 5, 3) := by decide +kernel
theorem dX6_copy_33 : decode cX6_copy 33 = .ok (.iconst 0, 1) := by decide +kernel
theorem dX6_copy_34 : decode cX6_copy 34 = .ok (.ireturn, 1) := by decide +kernel
theorem dX6_copy_35 : decode cX6_copy 35 = .ok (.iload_n 2, 1) := by decide +kernel
theorem dX6_copy_36 : decode cX6_copy 36 = .ok (.ifCond .ge 7, 3) := by decide +kernel
theorem dX6_copy_39 : decode cX6_copy 39 = .ok (.iconst (-1), 1) := by decide +kernel
theorem dX6_copy_40 : decode cX6_copy 40 = .ok (.goto 9, 3) := by decide +kernel
theorem dX6_copy_43 : decode cX6_copy 43 = .ok (.aload_n 0, 1) := by decide +kernel
theorem dX6_copy_44 : decode cX6_copy 44 = .ok (.getfield 7, 3) := by decide +kernel
theorem dX6_copy_47 : decode cX6_copy 47 = .ok (.iload_n 2, 1) := by decide +kernel
theorem dX6_copy_48 : decode cX6_copy 48 = .ok (.iaload, 1) := by decide +kernel
theorem dX6_copy_49 : decode cX6_copy 49 = .ok (.istore_n 3, 1) := by decide +kernel
theorem dX6_copy_50 : decode cX6_copy 50 = .ok (.aload_n 0, 1) := by decide +kernel
theorem dX6_copy_51 : decode cX6_copy 51 = .ok (.getfield 7, 3) := by decide +kernel
theorem dX6_copy_54 : decode cX6_copy 54 = .ok (.iload_n 1, 1) := by decide +kernel
theorem dX6_copy_55 : decode cX6_copy 55 = .ok (.iaload, 1) := by decide +kernel
