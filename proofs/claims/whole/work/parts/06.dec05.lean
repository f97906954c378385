theorem dX6_both_17 : decode cX6_both 17 = .ok (.iload 4, 2) := by decide +kernel
theorem dX6_both_19 : decode cX6_both 19 = .ok (.ifCond .lt 12, 3) := by decide +kernel
theorem dX6_both_22 : decode cX6_both 22 = .ok (.iload 5, 2) := by decide +kernel
theorem dX6_both_24 : decode cX6_both 24 = .ok (.ifCond .lt 7, 3) := by decide +kernel
theorem dX6_both_27 : decode cX6_both 27 = .ok (.iconst 1, 1) := by decide +kernel
theorem dX6_both_28 : decode cX6_both 28 = .ok (.goto 4, 3) := by decide +kernel
theorem dX6_both_31 : decode cX6_both 31 = .ok (.iconst 0, 1) := by decide +kernel
theorem dX6_both_32 : decode cX6_both 32 = .ok (.iconst 2, 1) := by decide +kernel
theorem dX6_both_33 : decode cX6_both 33 = .ok (.invokevirtual 44, 3) := by decide +kernel
theorem dX6_both_36 : decode cX6_both 36 = .ok (.ifCond .eq 40, 3) := by decide +kernel
theorem dX6_both_39 : decode cX6_both 39 = .ok (.aload_n 0, 1) := by decide +kernel
theorem dX6_both_40 : decode cX6_both 40 = .ok (.aload_n 0, 1) := by decide +kernel
theorem dX6_both_41 : decode cX6_both 41 = .ok (.iload 4, 2) := by decide +kernel
theorem dX6_both_43 : decode cX6_both 43 = .ok (.invokevirtual 84, 3) := by decide +kernel
theorem dX6_both_46 : decode cX6_both 46 = .ok (.iload_n 3, 1) := by decide +kernel
theorem dX6_both_47 : decode cX6_both 47 = .ok (.if_icmp .gt 17, 3) := by decide +kernel
theorem dX6_both_50 : decode cX6_both 50 = .ok (.aload_n 0, 1) := by decide +kernel
theorem dX6_both_51 : decode cX6_both 51 = .ok (.iload 5, 2) := by decide +kernel
theorem dX6_both_53 : decode cX6_both 53 = .ok (.invokevirtual 84, 3) := by decide +kernel
theorem dX6_both_56 : decode cX6_both 56 = .ok (.iload_n 3, 1) := by decide +kernel
theorem dX6_both_57 : decode cX6_both 57 = .ok (.if_icmp .gt 7, 3) := by decide +kernel
theorem dX6_both_60 : decode cX6_both 60 = .ok (.iconst 1, 1) := by decide +kernel
theorem dX6_both_61 : decode cX6_both 61 = .ok (.goto 4, 3) := by decide +kernel
theorem dX6_both_64 : decode cX6_both 64 = .ok (.iconst 0, 1) := by decide +kernel
theorem dX6_both_65 : decode cX6_both 65 = .ok (.iconst 3, 1) := by decide +kernel
theorem dX6_both_66 : decode cX6_both 66 = .ok (.invokevirtual 44, 3) := by decide +kernel
theorem dX6_both_69 : decode cX6_both 69 = .ok (.ifCond .eq 7, 3) := by decide +kernel
theorem dX6_both_72 : decode cX6_both 72 = .ok (.iconst 1, 1) := by decide +kernel
theorem dX6_both_73 : decode cX6_both 73 = .ok (.goto 4, 3) := by decide +kernel
theorem dX6_both_76 : decode cX6_both 76 = .ok (.iconst 0, 1) := by decide +kernel
theorem dX6_both_77 : decode cX6_both 77 = .ok (.ireturn, 1) := by decide +kernel
theorem dX6_reckon_0 : decode cX6_reckon 0 = .ok (.iload_n 0, 1) := by decide +kernel
theorem dX6_reckon_1 : decode cX6_reckon 1 = .ok (.ifCond .ne 7, 3) := by decide +kernel
theorem dX6_reckon_4 : decode cX6_reckon 4 = .ok (.lload_n 1, 1) := by decide +kernel
theorem dX6_reckon_5 : decode cX6_reckon 5 = .ok (.lload_n 3, 1) := by decide +kernel
theorem dX6_reckon_6 : decode cX6_reckon 6 = .ok (.ladd, 1) := by decide +kernel
theorem dX6_reckon_7 : decode cX6_reckon 7 = .ok (.lreturn, 1) := by decide +kernel
theorem dX6_reckon_8 : decode cX6_reckon 8 = .ok (.iload_n 0, 1) := by decide +kernel
theorem dX6_reckon_9 : decode cX6_reckon 9 = .ok (.iconst 1, 1) := by decide +kernel
theorem dX6_reckon_10 : decode cX6_reckon 10 = .ok (.if_icmp .ne 7, 3) := by decide +kernel
theorem dX6_reckon_13 : decode cX6_reckon 13 = .ok (.lload_n 1, 1) := by decide +kernel
theorem dX6_reckon_14 : decode cX6_reckon 14 = .ok (.lload_n 3, 1) := by decide +kernel
theorem dX6_reckon_15 : decode cX6_reckon 15 = .ok (.lsub, 1) := by decide +kernel
theorem dX6_reckon_16 : decode cX6_reckon 16 = .ok (.lreturn, 1) := by decide +kernel
theorem dX6_reckon_17 : decode cX6_reckon 17 = .ok (.iload_n 0, 1) := by decide +kernel
theorem dX6_reckon_18 : decode cX6_reckon 18 = .ok (.iconst 2, 1) := by decide +kernel
theorem dX6_reckon_19 : decode cX6_reckon 19 = .ok (.if_icmp .ne 7, 3) := by decide +kernel
theorem dX6_reckon_22 : decode cX6_reckon 22 = .ok (.lload_n 1, 1) := by decide +kernel
theorem dX6_reckon_23 : decode cX6_reckon 23 = .ok (.lload_n 3, 1) := by decide +kernel
theorem dX6_reckon_24 : decode cX6_reckon 24 = .ok (.lmul, 1) := by decide +kernel
theorem dX6_reckon_25 : decode cX6_reckon 25 = .ok (.lreturn, 1) := by decide +kernel
theorem dX6_reckon_26 : decode cX6_reckon 26 = .ok (.lload_n 3, 1) := by decide +kernel
theorem dX6_reckon_27 : decode cX6_reckon 27 = .ok (.ldc2_w 51, 3) := by decide +kernel
theorem dX6_reckon_30 : decode cX6_reckon 30 = .ok (.lcmp, 1) := by decide +kernel
theorem dX6_reckon_31 : decode cX6_reckon 31 = .ok (.ifCond .ne 16, 3) := by decide +kernel
theorem dX6_reckon_34 : decode cX6_reckon 34 = .ok (.iload_n 0, 1) := by decide +kernel
theorem dX6_reckon_35 : decode cX6_reckon 35 = .ok (.iconst 3, 1) := by decide +kernel
theorem dX6_reckon_36 : decode cX6_reckon 36 = .ok (.if_icmp .ne 9, 3) := by decide +kernel
theorem dX6_reckon_39 : decode cX6_reckon 39 = .ok (.lconst 0, 1) := by decide +kernel
theorem dX6_reckon_40 : decode cX6_reckon 40 = .ok (.lload_n 1, 1) := by decide +kernel
theorem dX6_reckon_41 : decode cX6_reckon 41 = .ok (.lsub, 1) := by decide +kernel
theorem dX6_reckon_42 : decode cX6_reckon 42 = .ok (.goto 4, 3) := by decide +kernel
theorem dX6_reckon_45 : decode cX6_reckon 45 = .ok (.lconst 0, 1) := by decide +kernel
theorem dX6_reckon_46 : decode cX6_reckon 46 = .ok (.lreturn, 1) := by decide +kernel
theorem dX6_reckon_47 : decode cX6_reckon 47 = .ok (.iload_n 0, 1) := by decide +kernel
theorem dX6_reckon_48 : decode cX6_reckon 48 = .ok (.iconst 3, 1) := by decide +kernel
theorem dX6_reckon_49 : decode cX6_reckon 49 = .ok (.if_icmp .ne 9, 3) := by decide +kernel
theorem dX6_reckon_52 : decode cX6_reckon 52 = .ok (.lload_n 1, 1) := by decide +kernel
theorem dX6_reckon_53 : decode cX6_reckon 53 = .ok (.lload_n 3, 1) := by decide +kernel
theorem dX6_reckon_54 : decode cX6_reckon 54 = .ok (.ldiv, 1) := by decide +kernel
theorem dX6_reckon_55 : decode cX6_reckon 55 = .ok (.goto 6, 3) := by decide +kernel
theorem dX6_reckon_58 : decode cX6_reckon 58 = .ok (.lload_n 1, 1) := by decide +kernel
theorem dX6_reckon_59 : decode cX6_reckon 59 = .ok (.lload_n 3, 1) := by decide +kernel
theorem dX6_reckon_60 : decode cX6_reckon 60 = .ok (.lrem, 1) := by decide +kernel
theorem dX6_reckon_61 : decode cX6_reckon 61 = .ok (.lreturn, 1) := by decide +kernel
theorem dX6_combine_0 : decode cX6_combine 0 = .ok (.aload_n 0, 1) := by decide +kernel
theorem dX6_combine_1 : decode cX6_combine 1 = .ok (.iload_n 1, 1) := by decide +kernel
theorem dX6_combine_2 : decode cX6_combine 2 = .ok (.iconst 0, 1) := by decide +kernel
theorem dX6_combine_3 : decode cX6_combine 3 = .ok (.iconst 4, 1) := by decide +kernel
theorem dX6_combine_4 : decode cX6_combine 4 = .ok (.invokestatic 40, 3) := by decide +kernel
theorem dX6_combine_7 : decode cX6_combine 7 = .ok (.ifCond .eq 28, 3) := by decide +kernel
theorem dX6_combine_10 : decode cX6_combine 10 = .ok (.iload_n 2, 1) := by decide +kernel
theorem dX6_combine_11 : decode cX6_combine 11 = .ok (.iconst 0, 1) := by decide +kernel
theorem dX6_combine_12 : decode cX6_combine 12 = .ok (.bipush 7, 2) := by decide +kernel
theorem dX6_combine_14 : decode cX6_combine 14 = .ok (.invokestatic 40, 3) := by decide +kernel
theorem dX6_combine_17 : decode cX6_combine 17 = .ok (.ifCond .eq 18, 3) := by decide +kernel
theorem dX6_combine_20 : decode cX6_combine 20 = .ok (.iload 4, 2) := by decide +kernel
theorem dX6_combine_22 : decode cX6_combine 22 = .ok (.iconst 0, 1) := by decide +kernel
theorem dX6_combine_23 : decode cX6_combine 23 = .ok (.bipush 7, 2) := by decide +kernel
theorem dX6_combine_25 : decode cX6_combine 25 = .ok (.invokestatic 40, 3) := by decide +kernel
theorem dX6_combine_28 : decode cX6_combine 28 = .ok (.ifCond .eq 7, 3) := by decide +kernel
theorem dX6_combine_31 : decode cX6_combine 31 = .ok (.iconst 1, 1) := by decide +kernel
theorem dX6_combine_32 : decode cX6_combine 32 = .ok (.goto 4, 3) := by decide +kernel
theorem dX6_combine_35 : decode cX6_combine 35 = .ok (.iconst 0, 1) := by decide +kernel
theorem dX6_combine_36 : decode cX6_combine 36 = .ok (.iconst 1, 1) := by decide +kernel
theorem dX6_combine_37 : decode cX6_combine 37 = .ok (.invokevirtual 44, 3) := by decide +kernel
theorem dX6_combine_40 : decode cX6_combine 40 = .ok (.ifCond .eq 14, 3) := by decide +kernel
theorem dX6_combine_43 : decode cX6_combine 43 = .ok (.aload_n 0, 1) := by decide +kernel
theorem dX6_combine_44 : decode cX6_combine 44 = .ok (.iload_n 2, 1) := by decide +kernel
theorem dX6_combine_45 : decode cX6_combine 45 = .ok (.iload 4, 2) := by decide +kernel
theorem dX6_combine_47 : decode cX6_combine 47 = .ok (.iconst 5, 1) := by decide +kernel
theorem dX6_combine_48 : decode cX6_combine 48 = .ok (.invokevirtual 111, 3) := by decide +kernel
theorem dX6_combine_51 : decode cX6_combine 51 = .ok (.ifCond .ne 5, 3) := by decide +kernel
theorem dX6_combine_54 : decode cX6_combine 54 = .ok (.lconst 0, 1) := by decide +kernel
theorem dX6_combine_55 : decode cX6_combine 55 = .ok (.lreturn, 1) := by decide +kernel
theorem dX6_combine_56 : decode cX6_combine 56 = .ok (.aload_n 0, 1) := by decide +kernel
theorem dX6_combine_57 : decode cX6_combine 57 = .ok (.aload_n 0, 1) := by decide +kernel
theorem dX6_combine_58 : decode cX6_combine 58 = .ok (.getfield 7, 3) := by decide +kernel
theorem dX6_combine_61 : decode cX6_combine 61 = .ok (.iload_n 2, 1) := by decide +kernel
theorem dX6_combine_62 : decode cX6_combine 62 = .ok (.iaload, 1) := by decide +kernel
theorem dX6_combine_63 : decode cX6_combine 63 = .ok (.invokevirtual 84, 3) := by decide +kernel
theorem dX6_combine_66 : decode cX6_combine 66 = .ok (.iconst 5, 1) := by decide +kernel
theorem dX6_combine_67 : decode cX6_combine 67 = .ok (.if_icmp .ge 22, 3) := by decide +kernel
theorem dX6_combine_70 : decode cX6_combine 70 = .ok (.aload_n 0, 1) := by decide +kernel
theorem dX6_combine_71 : decode cX6_combine 71 = .ok (.aload_n 0, 1) := by decide +kernel
theorem dX6_combine_72 : decode cX6_combine 72 = .ok (.getfield 7, 3) := by decide +kernel
theorem dX6_combine_75 : decode cX6_combine 75 = .ok (.iload 4, 2) := by decide +kernel
theorem dX6_combine_77 : decode cX6_combine 77 = .ok (.iaload, 1) := by decide +kernel
theorem dX6_combine_78 : decode cX6_combine 78 = .ok (.invokevirtual 84, 3) := by decide +kernel
theorem dX6_combine_81 : decode cX6_combine 81 = .ok (.iconst 5, 1) := by decide +kernel
theorem dX6_combine_82 : decode cX6_combine 82 = .ok (.if_icmp .ge 7, 3) := by decide +kernel
theorem dX6_combine_85 : decode cX6_combine 85 = .ok (.iconst 1, 1) := by decide +kernel
theorem dX6_combine_86 : decode cX6_combine 86 = .ok (.goto 4, 3) := by decide +kernel
theorem dX6_combine_89 : decode cX6_combine 89 = .ok (.iconst 0, 1) := by decide +kernel
theorem dX6_combine_90 : decode cX6_combine 90 = .ok (.istore 6, 2) := by decide +kernel
theorem dX6_combine_92 : decode cX6_combine 92 = .ok (.aload_n 0, 1) := by decide +kernel
theorem dX6_combine_93 : decode cX6_combine 93 = .ok (.aload_n 0, 1) := by decide +kernel
theorem dX6_combine_94 : decode cX6_combine 94 = .ok (.aload_n 0, 1) := by decide +kernel
theorem dX6_combine_95 : decode cX6_combine 95 = .ok (.getfield 7, 3) := by decide +kernel
theorem dX6_combine_98 : decode cX6_combine 98 = .ok (.iload_n 2, 1) := by decide +kernel
theorem dX6_combine_99 : decode cX6_combine 99 = .ok (.iaload, 1) := by decide +kernel
theorem dX6_combine_100 : decode cX6_combine 100 = .ok (.iload_n 3, 1) := by decide +kernel
theorem dX6_combine_101 : decode cX6_combine 101 = .ok (.invokevirtual 87, 3) := by decide +kernel
theorem dX6_combine_104 : decode cX6_combine 104 = .ok (.putfield 36, 3) := by decide +kernel
theorem dX6_combine_107 : decode cX6_combine 107 = .ok (.aload_n 0, 1) := by decide +kernel
theorem dX6_combine_108 : decode cX6_combine 108 = .ok (.getfield 36, 3) := by decide +kernel
theorem dX6_combine_111 : decode cX6_combine 111 = .ok (.ifCond .eq 5, 3) := by decide +kernel
theorem dX6_combine_114 : decode cX6_combine 114 = .ok (.lconst 0, 1) := by decide +kernel
theorem dX6_combine_115 : decode cX6_combine 115 = .ok (.lreturn, 1) := by decide +kernel
theorem dX6_combine_116 : decode cX6_combine 116 = .ok (.aload_n 0, 1) := by decide +kernel
theorem dX6_combine_117 : decode cX6_combine 117 = .ok (.invokevirtual 80, 3) := by decide +kernel
theorem dX6_combine_120 : decode cX6_combine 120 = .ok (.lstore 7, 2) := by decide +kernel
theorem dX6_combine_122 : decode cX6_combine 122 = .ok (.aload_n 0, 1) := by decide +kernel
theorem dX6_combine_123 : decode cX6_combine 123 = .ok (.getfield 71, 3) := by decide +kernel
theorem dX6_combine_126 : decode cX6_combine 126 = .ok (.istore 9, 2) := by decide +kernel
theorem dX6_combine_128 : decode cX6_combine 128 = .ok (.aload_n 0, 1) := by decide +kernel
theorem dX6_combine_129 : decode cX6_combine 129 = .ok (.getfield 68, 3) := by decide +kernel
theorem dX6_combine_132 : decode cX6_combine 132 = .ok (.istore 10, 2) := by decide +kernel
theorem dX6_combine_134 : decode cX6_combine 134 = .ok (.aload_n 0, 1) := by decide +kernel
theorem dX6_combine_135 : decode cX6_combine 135 = .ok (.aload_n 0, 1) := by decide +kernel
theorem dX6_combine_136 : decode cX6_combine 136 = .ok (.aload_n 0, 1) := by decide +kernel
theorem dX6_combine_137 : decode cX6_combine 137 = .ok (.getfield 7, 3) := by decide +kernel
theorem dX6_combine_140 : decode cX6_combine 140 = .ok (.iload 4, 2) := by decide +kernel
theorem dX6_combine_142 : decode cX6_combine 142 = .ok (.iaload, 1) := by decide +kernel
theorem dX6_combine_143 : decode cX6_combine 143 = .ok (.iload 5, 2) := by decide +kernel
theorem dX6_combine_145 : decode cX6_combine 145 = .ok (.invokevirtual 87, 3) := by decide +kernel
theorem dX6_combine_148 : decode cX6_combine 148 = .ok (.putfield 36, 3) := by decide +kernel
theorem dX6_combine_151 : decode cX6_combine 151 = .ok (.aload_n 0, 1) := by decide +kernel
theorem dX6_combine_152 : decode cX6_combine 152 = .ok (.getfield 36, 3) := by decide +kernel
theorem dX6_combine_155 : decode cX6_combine 155 = .ok (.ifCond .eq 5, 3) := by decide +kernel
theorem dX6_combine_158 : decode cX6_combine 158 = .ok (.lconst 0, 1) := by decide +kernel
theorem dX6_combine_159 : decode cX6_combine 159 = .ok (.lreturn, 1) := by decide +kernel
theorem dX6_combine_160 : decode cX6_combine 160 = .ok (.aload_n 0, 1) := by decide +kernel
theorem dX6_combine_161 : decode cX6_combine 161 = .ok (.invokevirtual 80, 3) := by decide +kernel
theorem dX6_combine_164 : decode cX6_combine 164 = .ok (.lstore 11, 2) := by decide +kernel
theorem dX6_combine_166 : decode cX6_combine 166 = .ok (.aload_n 0, 1) := by decide +kernel
theorem dX6_combine_167 : decode cX6_combine 167 = .ok (.iload_n 1, 1) := by decide +kernel
theorem dX6_combine_168 : decode cX6_combine 168 = .ok (.iconst 3, 1) := by decide +kernel
theorem dX6_combine_169 : decode cX6_combine 169 = .ok (.if_icmp .lt 10, 3) := by decide +kernel
theorem dX6_combine_172 : decode cX6_combine 172 = .ok (.lload 11, 2) := by decide +kernel
theorem dX6_combine_174 : decode cX6_combine 174 = .ok (.lconst 0, 1) := by decide +kernel
theorem dX6_combine_175 : decode cX6_combine 175 = .ok (.lcmp, 1) := by decide +kernel
theorem dX6_combine_176 : decode cX6_combine 176 = .ok (.ifCond .eq 7, 3) := by decide +kernel
theorem dX6_combine_179 : decode cX6_combine 179 = .ok (.iconst 1, 1) := by decide +kernel
theorem dX6_combine_180 : decode cX6_combine 180 = .ok (.goto 4, 3) := by decide +kernel
theorem dX6_combine_183 : decode cX6_combine 183 = .ok (.iconst 0, 1) := by decide +kernel
theorem dX6_combine_184 : decode cX6_combine 184 = .ok (.iconst 5, 1) := by decide +kernel
theorem dX6_combine_185 : decode cX6_combine 185 = .ok (.invokevirtual 44, 3) := by decide +kernel
theorem dX6_combine_188 : decode cX6_combine 188 = .ok (.ifCond .ne 5, 3) := by decide +kernel
theorem dX6_combine_191 : decode cX6_combine 191 = .ok (.lconst 0, 1) := by decide +kernel
theorem dX6_combine_192 : decode cX6_combine 192 = .ok (.lreturn, 1) := by decide +kernel
theorem dX6_combine_193 : decode cX6_combine 193 = .ok (.iload_n 1, 1) := by decide +kernel
theorem dX6_combine_194 : decode cX6_combine 194 = .ok (.lload 7, 2) := by decide +kernel
theorem dX6_combine_196 : decode cX6_combine 196 = .ok (.lload 11, 2) := by decide +kernel
theorem dX6_combine_198 : decode cX6_combine 198 = .ok (.invokestatic 114, 3) := by decide +kernel
theorem dX6_combine_201 : decode cX6_combine 201 = .ok (.lstore 13, 2) := by decide +kernel
theorem dX6_combine_203 : decode cX6_combine 203 = .ok (.aload_n 0, 1) := by decide +kernel
theorem dX6_combine_204 : decode cX6_combine 204 = .ok (.iload 9, 2) := by decide +kernel
theorem dX6_combine_206 : decode cX6_combine 206 = .ok (.putfield 71, 3) := by decide +kernel
theorem dX6_combine_209 : decode cX6_combine 209 = .ok (.aload_n 0, 1) := by decide +kernel
theorem dX6_combine_210 : decode cX6_combine 210 = .ok (.iload 10, 2) := by decide +kernel
theorem dX6_combine_212 : decode cX6_combine 212 = .ok (.putfield 68, 3) := by decide +kernel
theorem dX6_combine_215 : decode cX6_combine 215 = .ok (.aload_n 0, 1) := by decide +kernel
theorem dX6_combine_216 : decode cX6_combine 216 = .ok (.iload 6, 2) := by decide +kernel
theorem dX6_combine_218 : decode cX6_combine 218 = .ok (.ifCond .eq 10, 3) := by decide +kernel
theorem dX6_combine_221 : decode cX6_combine 221 = .ok (.lload 13, 2) := by decide +kernel
theorem dX6_combine_223 : decode cX6_combine 223 = .ok (.l2i, 1) := by decide +kernel
theorem dX6_combine_224 : decode cX6_combine 224 = .ok (.i2l, 1) := by decide +kernel
theorem dX6_combine_225 : decode cX6_combine 225 = .ok (.goto 5, 3) := by decide +kernel
theorem dX6_combine_228 : decode cX6_combine 228 = .ok (.lload 13, 2) := by decide +kernel
theorem dX6_combine_230 : decode cX6_combine 230 = .ok (.invokevirtual 94, 3) := by decide +kernel
theorem dX6_combine_233 : decode cX6_combine 233 = .ok (.lreturn, 1) := by decide +kernel
theorem dX6_move_0 : decode cX6_move 0 = .ok (.aload_n 0, 1) := by decide +kernel
theorem dX6_move_1 : decode cX6_move 1 = .ok (.iload_n 1, 1) := by decide +kernel
theorem dX6_move_2 : decode cX6_move 2 = .ok (.iconst 0, 1) := by decide +kernel
theorem dX6_move_3 : decode cX6_move 3 = .ok (.bipush 7, 2) := by decide +kernel
theorem dX6_move_5 : decode cX6_move 5 = .ok (.invokestatic 40, 3) := by decide +kernel
theorem dX6_move_8 : decode cX6_move 8 = .ok (.ifCond .eq 28, 3) := by decide +kernel
theorem dX6_move_11 : decode cX6_move 11 = .ok (.iload_n 3, 1) := by decide +kernel
theorem dX6_move_12 : decode cX6_move 12 = .ok (.iconst 0, 1) := by decide +kernel
theorem dX6_move_13 : decode cX6_move 13 = .ok (.bipush 7, 2) := by decide +kernel
theorem dX6_move_15 : decode cX6_move 15 = .ok (.invokestatic 40, 3) := by decide +kernel
theorem dX6_move_18 : decode cX6_move 18 = .ok (.ifCond .eq 18, 3) := by decide +kernel
theorem dX6_move_21 : decode cX6_move 21 = .ok (.iload 5, 2) := by decide +kernel
theorem dX6_move_23 : decode cX6_move 23 = .ok (.iconst 0, 1) := by decide +kernel
theorem dX6_move_24 : decode cX6_move 24 = .ok (.bipush 24, 2) := by decide +kernel
theorem dX6_move_26 : decode cX6_move 26 = .ok (.invokestatic 40, 3) := by decide +kernel
theorem dX6_move_29 : decode cX6_move 29 = .ok (.ifCond .eq 7, 3) := by decide +kernel
theorem dX6_move_32 : decode cX6_move 32 = .ok (.iconst 1, 1) := by decide +kernel
theorem dX6_move_33 : decode cX6_move 33 = .ok (.goto 4, 3) := by decide +kernel
theorem dX6_move_36 : decode cX6_move 36 = .ok (.iconst 0, 1) := by decide +kernel
theorem dX6_move_37 : decode cX6_move 37 = .ok (.iconst 1, 1) := by decide +kernel
theorem dX6_move_38 : decode cX6_move 38 = .ok (.invokevirtual 44, 3) := by decide +kernel
theorem dX6_move_41 : decode cX6_move 41 = .ok (.ifCond .eq 14, 3) := by decide +kernel
theorem dX6_move_44 : decode cX6_move 44 = .ok (.aload_n 0, 1) := by decide +kernel
theorem dX6_move_45 : decode cX6_move 45 = .ok (.iload_n 1, 1) := by decide +kernel
theorem dX6_move_46 : decode cX6_move 46 = .ok (.iload_n 3, 1) := by decide +kernel
theorem dX6_move_47 : decode cX6_move 47 = .ok (.bipush 7, 2) := by decide +kernel
theorem dX6_move_49 : decode cX6_move 49 = .ok (.invokevirtual 111, 3) := by decide +kernel
theorem dX6_move_52 : decode cX6_move 52 = .ok (.ifCond .ne 5, 3) := by decide +kernel
theorem dX6_move_55 : decode cX6_move 55 = .ok (.iconst 0, 1) := by decide +kernel
theorem dX6_move_56 : decode cX6_move 56 = .ok (.ireturn, 1) := by decide +kernel
theorem dX6_move_57 : decode cX6_move 57 = .ok (.iconst 0, 1) := by decide +kernel
theorem dX6_move_58 : decode cX6_move 58 = .ok (.istore 6, 2) := by decide +kernel
theorem dX6_move_60 : decode cX6_move 60 = .ok (.iload 6, 2) := by decide +kernel
theorem dX6_move_62 : decode cX6_move 62 = .ok (.iload 5, 2) := by decide +kernel
theorem dX6_move_64 : decode cX6_move 64 = .ok (.if_icmp .ge 77, 3) := by decide +kernel
theorem dX6_move_67 : decode cX6_move 67 = .ok (.aload_n 0, 1) := by decide +kernel
theorem dX6_move_68 : decode cX6_move 68 = .ok (.aload_n 0, 1) := by decide +kernel
theorem dX6_move_69 : decode cX6_move 69 = .ok (.aload_n 0, 1) := by decide +kernel
theorem dX6_move_70 : decode cX6_move 70 = .ok (.getfield 7, 3) := by decide +kernel
theorem dX6_move_73 : decode cX6_move 73 = .ok (.iload_n 3, 1) := by decide +kernel
theorem dX6_move_74 : decode cX6_move 74 = .ok (.iaload, 1) := by decide +kernel
theorem dX6_move_75 : decode cX6_move 75 = .ok (.iload 4, 2) := by decide +kernel
theorem dX6_move_77 : decode cX6_move 77 = .ok (.iload 6, 2) := by decide +kernel
theorem dX6_move_79 : decode cX6_move 79 = .ok (.iadd, 1) := by decide +kernel
theorem dX6_move_80 : decode cX6_move 80 = .ok (.invokevirtual 87, 3) := by decide +kernel
theorem dX6_move_83 : decode cX6_move 83 = .ok (.putfield 36, 3) := by decide +kernel
theorem dX6_move_86 : decode cX6_move 86 = .ok (.aload_n 0, 1) := by decide +kernel
theorem dX6_move_87 : decode cX6_move 87 = .ok (.getfield 36, 3) := by decide +kernel
theorem dX6_move_90 : decode cX6_move 90 = .ok (.ifCond .eq 5, 3) := by decide +kernel
theorem dX6_move_93 : decode cX6_move 93 = .ok (.iconst 0, 1) := by decide +kernel
theorem dX6_move_94 : decode cX6_move 94 = .ok (.ireturn, 1) := by decide +kernel
theorem dX6_move_95 : decode cX6_move 95 = .ok (.aload_n 0, 1) := by decide +kernel
theorem dX6_move_96 : decode cX6_move 96 = .ok (.invokevirtual 80, 3) := by decide +kernel
theorem dX6_move_99 : decode cX6_move 99 = .ok (.lstore 7, 2) := by decide +kernel
theorem dX6_move_101 : decode cX6_move 101 = .ok (.aload_n 0, 1) := by decide +kernel
theorem dX6_move_102 : decode cX6_move 102 = .ok (.aload_n 0, 1) := by decide +kernel
theorem dX6_move_103 : decode cX6_move 103 = .ok (.aload_n 0, 1) := by decide +kernel
theorem dX6_move_104 : decode cX6_move 104 = .ok (.getfield 7, 3) := by decide +kernel
theorem dX6_move_107 : decode cX6_move 107 = .ok (.iload_n 1, 1) := by decide +kernel
theorem dX6_move_108 : decode cX6_move 108 = .ok (.iaload, 1) := by decide +kernel
theorem dX6_move_109 : decode cX6_move 109 = .ok (.iload_n 2, 1) := by decide +kernel
theorem dX6_move_110 : decode cX6_move 110 = .ok (.iload 6, 2) := by decide +kernel
theorem dX6_move_112 : decode cX6_move 112 = .ok (.iadd, 1) := by decide +kernel
theorem dX6_move_113 : decode cX6_move 113 = .ok (.invokevirtual 87, 3) := by decide +kernel
theorem dX6_move_116 : decode cX6_move 116 = .ok (.putfield 36, 3) := by decide +kernel
theorem dX6_move_119 : decode cX6_move 119 = .ok (.aload_n 0, 1) := by decide +kernel
theorem dX6_move_120 : decode cX6_move 120 = .ok (.getfield 36, 3) := by decide +kernel
theorem dX6_move_123 : decode cX6_move 123 = .ok (.ifCond .eq 5, 3) := by decide +kernel
theorem dX6_move_126 : decode cX6_move 126 = .ok (.iconst 0, 1) := by decide +kernel
theorem dX6_move_127 : decode cX6_move 127 = .ok (.ireturn, 1) := by decide +kernel
theorem dX6_move_128 : decode cX6_move 128 = .ok (.aload_n 0, 1) := by decide +kernel
theorem dX6_move_129 : decode cX6_move 129 = .ok (.lload 7, 2) := by decide +kernel
theorem dX6_move_131 : decode cX6_move 131 = .ok (.invokevirtual 94, 3) := by decide +kernel
theorem dX6_move_134 : decode cX6_move 134 = .ok (.pop2, 1) := by decide +kernel
theorem dX6_move_135 : decode cX6_move 135 = .ok (.iinc 6 1, 3) := by decide +kernel
theorem dX6_move_138 : decode cX6_move 138 = .ok (.goto (-78), 3) := by decide +kernel
theorem dX6_move_141 : decode cX6_move 141 = .ok (.iload 5, 2) := by decide +kernel
theorem dX6_move_143 : decode cX6_move 143 = .ok (.ireturn, 1) := by decide +kernel
theorem dJx00060_init_a7421_0 : decode cJx00060_init_a7421 0 = .ok (.aload_n 0, 1) := by decide +kernel
theorem dJx00060_init_a7421_1 : decode cJx00060_init_a7421 1 = .ok (.aload_n 1, 1) := by decide +kernel
theorem dJx00060_init_a7421_2 : decode cJx00060_init_a7421 2 = .ok (.invokespecial 7, 3) := by decide +kernel
theorem dJx00060_init_a7421_5 : decode cJx00060_init_a7421 5 = .ok (.return_, 1) := by decide +kernel
theorem dJ9_min_7cf53_0 : decode cJ9_min_7cf53 0 = .ok (.iload_n 0, 1) := by decide +kernel
theorem dJ9_min_7cf53_1 : decode cJ9_min_7cf53 1 = .ok (.iload_n 1, 1) := by decide +kernel
theorem dJ9_min_7cf53_2 : decode cJ9_min_7cf53 2 = .ok (.if_icmp .gt 7, 3) := by decide +kernel
theorem dJ9_min_7cf53_5 : decode cJ9_min_7cf53 5 = .ok (.iload_n 0, 1) := by decide +kernel
theorem dJ9_min_7cf53_6 : decode cJ9_min_7cf53 6 = .ok (.goto 4, 3) := by decide +kernel
theorem dJ9_min_7cf53_9 : decode cJ9_min_7cf53 9 = .ok (.iload_n 1, 1) := by decide +kernel
theorem dJ9_min_7cf53_10 : decode cJ9_min_7cf53 10 = .ok (.ireturn, 1) := by decide +kernel
theorem dJxde1cd_init_a7421_0 : decode cJxde1cd_init_a7421 0 = .ok (.aload_n 0, 1) := by decide +kernel
theorem dJxde1cd_init_a7421_1 : decode cJxde1cd_init_a7421 1 = .ok (.aload_n 1, 1) := by decide +kernel
theorem dJxde1cd_init_a7421_2 : decode cJxde1cd_init_a7421 2 = .ok (.invokespecial 7, 3) := by decide +kernel
theorem dJxde1cd_init_a7421_5 : decode cJxde1cd_init_a7421 5 = .ok (.return_, 1) := by decide +kernel
theorem dJx5d777_init_da8c8_0 : decode cJx5d777_init_da8c8 0 = .ok (.aload_n 0, 1) := by decide +kernel
theorem dJx5d777_init_da8c8_1 : decode cJx5d777_init_da8c8 1 = .ok (.invokespecial 1, 3) := by decide +kernel
theorem dJx5d777_init_da8c8_4 : decode cJx5d777_init_da8c8 4 = .ok (.return_, 1) := by decide +kernel
theorem dJx5d777_fillInStackTrace_cddbd_0 : decode cJx5d777_fillInStackTrace_cddbd 0 = .ok (.aload_n 0, 1) := by decide +kernel
theorem dJx5d777_fillInStackTrace_cddbd_1 : decode cJx5d777_fillInStackTrace_cddbd 1 = .ok (.getfield 10, 3) := by decide +kernel
theorem dJx5d777_fillInStackTrace_cddbd_4 : decode cJx5d777_fillInStackTrace_cddbd 4 = .ok (.ifCond .ne 11, 3) := by decide +kernel
theorem dJx5d777_fillInStackTrace_cddbd_7 : decode cJx5d777_fillInStackTrace_cddbd 7 = .ok (.aload_n 0, 1) := by decide +kernel
theorem dJx5d777_fillInStackTrace_cddbd_8 : decode cJx5d777_fillInStackTrace_cddbd 8 = .ok (.iconst 1, 1) := by decide +kernel
theorem dJx5d777_fillInStackTrace_cddbd_9 : decode cJx5d777_fillInStackTrace_cddbd 9 = .ok (.putfield 10, 3) := by decide +kernel
theorem dJx5d777_fillInStackTrace_cddbd_12 : decode cJx5d777_fillInStackTrace_cddbd 12 = .ok (.goto 24, 3) := by decide +kernel
theorem dJx5d777_fillInStackTrace_cddbd_15 : decode cJx5d777_fillInStackTrace_cddbd 15 = .ok (.aload_n 0, 1) := by decide +kernel
theorem dJx5d777_fillInStackTrace_cddbd_16 : decode cJx5d777_fillInStackTrace_cddbd 16 = .ok (.getfield 10, 3) := by decide +kernel
theorem dJx5d777_fillInStackTrace_cddbd_19 : decode cJx5d777_fillInStackTrace_cddbd 19 = .ok (.iconst 1, 1) := by decide +kernel
theorem dJx5d777_fillInStackTrace_cddbd_20 : decode cJx5d777_fillInStackTrace_cddbd 20 = .ok (.if_icmp .ne 16, 3) := by decide +kernel
theorem dJx5d777_fillInStackTrace_cddbd_23 : decode cJx5d777_fillInStackTrace_cddbd 23 = .ok (.aload_n 0, 1) := by decide +kernel
theorem dJx5d777_fillInStackTrace_cddbd_24 : decode cJx5d777_fillInStackTrace_cddbd 24 = .ok (.aload_n 0, 1) := by decide +kernel
theorem dJx5d777_fillInStackTrace_cddbd_25 : decode cJx5d777_fillInStackTrace_cddbd 25 = .ok (.invokevirtual 16, 3) := by decide +kernel
theorem dJx5d777_fillInStackTrace_cddbd_28 : decode cJx5d777_fillInStackTrace_cddbd 28 = .ok (.putfield 20, 3) := by decide +kernel
theorem dJx5d777_fillInStackTrace_cddbd_31 : decode cJx5d777_fillInStackTrace_cddbd 31 = .ok (.aload_n 0, 1) := by decide +kernel
theorem dJx5d777_fillInStackTrace_cddbd_32 : decode cJx5d777_fillInStackTrace_cddbd 32 = .ok (.iconst 2, 1) := by decide +kernel
theorem dJx5d777_fillInStackTrace_cddbd_33 : decode cJx5d777_fillInStackTrace_cddbd 33 = .ok (.putfield 10, 3) := by decide +kernel
theorem dJx5d777_fillInStackTrace_cddbd_36 : decode cJx5d777_fillInStackTrace_cddbd 36 = .ok (.aload_n 0, 1) := by decide +kernel
theorem dJx5d777_fillInStackTrace_cddbd_37 : decode cJx5d777_fillInStackTrace_cddbd 37 = .ok (.invokespecial 24, 3) := by decide +kernel
theorem dJx5d777_fillInStackTrace_cddbd_40 : decode cJx5d777_fillInStackTrace_cddbd 40 = .ok (.areturn, 1) := by decide +kernel
theorem dJ7_copyOf_c38d5_0 : decode cJ7_copyOf_c38d5 0 = .ok (.iload_n 1, 1) := by decide +kernel
theorem dJ7_copyOf_c38d5_1 : decode cJ7_copyOf_c38d5 1 = .ok (.aload_n 0, 1) := by decide +kernel
theorem dJ7_copyOf_c38d5_2 : decode cJ7_copyOf_c38d5 2 = .ok (.arraylength, 1) := by decide +kernel
theorem dJ7_copyOf_c38d5_3 : decode cJ7_copyOf_c38d5 3 = .ok (.if_icmp .ne 11, 3) := by decide +kernel
theorem dJ7_copyOf_c38d5_6 : decode cJ7_copyOf_c38d5 6 = .ok (.aload_n 0, 1) := by decide +kernel
theorem dJ7_copyOf_c38d5_7 : decode cJ7_copyOf_c38d5 7 = .ok (.invokevirtual 319, 3) := by decide +kernel
theorem dJ7_copyOf_c38d5_10 : decode cJ7_copyOf_c38d5 10 = .ok (.checkcast 320, 3) := by decide +kernel
theorem dJ7_copyOf_c38d5_13 : decode cJ7_copyOf_c38d5 13 = .ok (.areturn, 1) := by decide +kernel
theorem dJ7_copyOf_c38d5_14 : decode cJ7_copyOf_c38d5 14 = .ok (.iload_n 1, 1) := by decide +kernel
theorem dJ7_copyOf_c38d5_15 : decode cJ7_copyOf_c38d5 15 = .ok (.newarray .long, 2) := by decide +kernel
theorem dJ7_copyOf_c38d5_17 : decode cJ7_copyOf_c38d5 17 = .ok (.astore_n 2, 1) := by decide +kernel
theorem dJ7_copyOf_c38d5_18 : decode cJ7_copyOf_c38d5 18 = .ok (.aload_n 0, 1) := by decide +kernel
theorem dJ7_copyOf_c38d5_19 : decode cJ7_copyOf_c38d5 19 = .ok (.iconst 0, 1) := by decide +kernel
theorem dJ7_copyOf_c38d5_20 : decode cJ7_copyOf_c38d5 20 = .ok (.aload_n 2, 1) := by decide +kernel
theorem dJ7_copyOf_c38d5_21 : decode cJ7_copyOf_c38d5 21 = .ok (.iconst 0, 1) := by decide +kernel
theorem dJ7_copyOf_c38d5_22 : decode cJ7_copyOf_c38d5 22 = .ok (.aload_n 0, 1) := by decide +kernel
theorem dJ7_copyOf_c38d5_23 : decode cJ7_copyOf_c38d5 23 = .ok (.arraylength, 1) := by decide +kernel
theorem dJ7_copyOf_c38d5_24 : decode cJ7_copyOf_c38d5 24 = .ok (.iload_n 1, 1) := by decide +kernel
theorem dJ7_copyOf_c38d5_25 : decode cJ7_copyOf_c38d5 25 = .ok (.invokestatic 304, 3) := by decide +kernel
theorem dJ7_copyOf_c38d5_28 : decode cJ7_copyOf_c38d5 28 = .ok (.invokestatic 150, 3) := by decide +kernel
theorem dJ7_copyOf_c38d5_31 : decode cJ7_copyOf_c38d5 31 = .ok (.aload_n 2, 1) := by decide +kernel
theorem dJ7_copyOf_c38d5_32 : decode cJ7_copyOf_c38d5 32 = .ok (.areturn, 1) := by decide +kernel
theorem dL_make_0 : decode cL_make 0 = .ok (.aload 4, 2) := by decide +kernel
theorem dL_make_2 : decode cL_make 2 = .ok (.iconst 0, 1) := by decide +kernel
theorem dL_make_3 : decode cL_make 3 = .ok (.aload_n 0, 1) := by decide +kernel
theorem dL_make_4 : decode cL_make 4 = .ok (.iload_n 1, 1) := by decide +kernel
theorem dL_make_5 : decode cL_make 5 = .ok (.iload_n 2, 1) := by decide +kernel
theorem dL_make_6 : decode cL_make 6 = .ok (.iload_n 3, 1) := by decide +kernel
theorem dL_make_7 : decode cL_make 7 = .ok (.invokevirtual 7, 3) := by decide +kernel
theorem dL_make_10 : decode cL_make 10 = .ok (.i2l, 1) := by decide +kernel
theorem dL_make_11 : decode cL_make 11 = .ok (.lastore, 1) := by decide +kernel
theorem dL_make_12 : decode cL_make 12 = .ok (.goto 11, 3) := by decide +kernel
theorem dL_make_15 : decode cL_make 15 = .ok (.astore 5, 2) := by decide +kernel
theorem dL_make_17 : decode cL_make 17 = .ok (.iconst 1, 1) := by decide +kernel
theorem dL_make_18 : decode cL_make 18 = .ok (.ireturn, 1) := by decide +kernel
theorem dL_make_19 : decode cL_make 19 = .ok (.astore 5, 2) := by decide +kernel
theorem dL_make_21 : decode cL_make 21 = .ok (.iconst 2, 1) := by decide +kernel
theorem dL_make_22 : decode cL_make 22 = .ok (.ireturn, 1) := by decide +kernel
theorem dL_make_23 : decode cL_make 23 = .ok (.iconst 0, 1) := by decide +kernel
theorem dL_make_24 : decode cL_make 24 = .ok (.ireturn, 1) := by decide +kernel
theorem dL_grid_0 : decode cL_grid 0 = .ok (.aload 4, 2) := by decide +kernel
theorem dL_grid_2 : decode cL_grid 2 = .ok (.iconst 0, 1) := by decide +kernel
theorem dL_grid_3 : decode cL_grid 3 = .ok (.aload_n 0, 1) := by decide +kernel
theorem dL_grid_4 : decode cL_grid 4 = .ok (.iload_n 1, 1) := by decide +kernel
theorem dL_grid_5 : decode cL_grid 5 = .ok (.iload_n 2, 1) := by decide +kernel
theorem dL_grid_6 : decode cL_grid 6 = .ok (.iload_n 3, 1) := by decide +kernel
theorem dL_grid_7 : decode cL_grid 7 = .ok (.invokevirtual 17, 3) := by decide +kernel
theorem dL_grid_10 : decode cL_grid 10 = .ok (.i2l, 1) := by decide +kernel
theorem dL_grid_11 : decode cL_grid 11 = .ok (.lastore, 1) := by decide +kernel
theorem dL_grid_12 : decode cL_grid 12 = .ok (.goto 11, 3) := by decide +kernel
theorem dL_grid_15 : decode cL_grid 15 = .ok (.astore 5, 2) := by decide +kernel
theorem dL_grid_17 : decode cL_grid 17 = .ok (.iconst 1, 1) := by decide +kernel
theorem dL_grid_18 : decode cL_grid 18 = .ok (.ireturn, 1) := by decide +kernel
theorem dL_grid_19 : decode cL_grid 19 = .ok (.astore 5, 2) := by decide +kernel
theorem dL_grid_21 : decode cL_grid 21 = .ok (.iconst 2, 1) := by decide +kernel
theorem dL_grid_22 : decode cL_grid 22 = .ok (.ireturn, 1) := by decide +kernel
theorem dL_grid_23 : decode cL_grid 23 = .ok (.iconst 0, 1) := by decide +kernel
theorem dL_grid_24 : decode cL_grid 24 = .ok (.ireturn, 1) := by decide +kernel
theorem dL_record_0 : decode cL_record 0 = .ok (.aload_n 2, 1) := by decide +kernel
theorem dL_record_1 : decode cL_record 1 = .ok (.iconst 0, 1) := by decide +kernel
theorem dL_record_2 : decode cL_record 2 = .ok (.aload_n 0, 1) := by decide +kernel
theorem dL_record_3 : decode cL_record 3 = .ok (.iload_n 1, 1) := by decide +kernel
theorem dL_record_4 : decode cL_record 4 = .ok (.invokevirtual 20, 3) := by decide +kernel
theorem dL_record_7 : decode cL_record 7 = .ok (.i2l, 1) := by decide +kernel
theorem dL_record_8 : decode cL_record 8 = .ok (.lastore, 1) := by decide +kernel
theorem dL_record_9 : decode cL_record 9 = .ok (.goto 6, 3) := by decide +kernel
theorem dL_record_12 : decode cL_record 12 = .ok (.astore_n 3, 1) := by decide +kernel
theorem dL_record_13 : decode cL_record 13 = .ok (.iconst 1, 1) := by decide +kernel
theorem dL_record_14 : decode cL_record 14 = .ok (.ireturn, 1) := by decide +kernel
theorem dL_record_15 : decode cL_record 15 = .ok (.iconst 0, 1) := by decide +kernel
theorem dL_record_16 : decode cL_record 16 = .ok (.ireturn, 1) := by decide +kernel
theorem dL_window_0 : decode cL_window 0 = .ok (.aload 4, 2) := by decide +kernel
theorem dL_window_2 : decode cL_window 2 = .ok (.iconst 0, 1) := by decide +kernel
theorem dL_window_3 : decode cL_window 3 = .ok (.aload_n 0, 1) := by decide +kernel
theorem dL_window_4 : decode cL_window 4 = .ok (.iload_n 1, 1) := by decide +kernel
theorem dL_window_5 : decode cL_window 5 = .ok (.iload_n 2, 1) := by decide +kernel
theorem dL_window_6 : decode cL_window 6 = .ok (.iload_n 3, 1) := by decide +kernel
theorem dL_window_7 : decode cL_window 7 = .ok (.invokevirtual 24, 3) := by decide +kernel
theorem dL_window_10 : decode cL_window 10 = .ok (.i2l, 1) := by decide +kernel
theorem dL_window_11 : decode cL_window 11 = .ok (.lastore, 1) := by decide +kernel
theorem dL_window_12 : decode cL_window 12 = .ok (.goto 19, 3) := by decide +kernel
theorem dL_window_15 : decode cL_window 15 = .ok (.astore 5, 2) := by decide +kernel
theorem dL_window_17 : decode cL_window 17 = .ok (.iconst 1, 1) := by decide +kernel
theorem dL_window_18 : decode cL_window 18 = .ok (.ireturn, 1) := by decide +kernel
theorem dL_window_19 : decode cL_window 19 = .ok (.astore 5, 2) := by decide +kernel
theorem dL_window_21 : decode cL_window 21 = .ok (.iconst 2, 1) := by decide +kernel
theorem dL_window_22 : decode cL_window 22 = .ok (.ireturn, 1) := by decide +kernel
theorem dL_window_23 : decode cL_window 23 = .ok (.astore 5, 2) := by decide +kernel
theorem dL_window_25 : decode cL_window 25 = .ok (.iconst 3, 1) := by decide +kernel
theorem dL_window_26 : decode cL_window 26 = .ok (.ireturn, 1) := by decide +kernel
theorem dL_window_27 : decode cL_window 27 = .ok (.astore 5, 2) := by decide +kernel
theorem dL_window_29 : decode cL_window 29 = .ok (.iconst 4, 1) := by decide +kernel
theorem dL_window_30 : decode cL_window 30 = .ok (.ireturn, 1) := by decide +kernel
theorem dL_window_31 : decode cL_window 31 = .ok (.iconst 0, 1) := by decide +kernel
theorem dL_window_32 : decode cL_window 32 = .ok (.ireturn, 1) := by decide +kernel
theorem dL_copy_0 : decode cL_copy 0 = .ok (.aload_n 3, 1) := by decide +kernel
theorem dL_copy_1 : decode cL_copy 1 = .ok (.iconst 0, 1) := by decide +kernel
theorem dL_copy_2 : decode cL_copy 2 = .ok (.aload_n 0, 1) := by decide +kernel
theorem dL_copy_3 : decode cL_copy 3 = .ok (.iload_n 1, 1) := by decide +kernel
theorem dL_copy_4 : decode cL_copy 4 = .ok (.iload_n 2, 1) := by decide +kernel
theorem dL_copy_5 : decode cL_copy 5 = .ok (.invokevirtual 33, 3) := by decide +kernel
theorem dL_copy_8 : decode cL_copy 8 = .ok (.ifCond .eq 7, 3) := by decide +kernel
theorem dL_copy_11 : decode cL_copy 11 = .ok (.lconst 1, 1) := by decide +kernel
theorem dL_copy_12 : decode cL_copy 12 = .ok (.goto 4, 3) := by decide +kernel
theorem dL_copy_15 : decode cL_copy 15 = .ok (.lconst 0, 1) := by decide +kernel
theorem dL_copy_16 : decode cL_copy 16 = .ok (.lastore, 1) := by decide +kernel
theorem dL_copy_17 : decode cL_copy 17 = .ok (.goto 7, 3) := by decide +kernel
theorem dL_copy_20 : decode cL_copy 20 = .ok (.astore 4, 2) := by decide +kernel
theorem dL_copy_22 : decode cL_copy 22 = .ok (.iconst 1, 1) := by decide +kernel
theorem dL_copy_23 : decode cL_copy 23 = .ok (.ireturn, 1) := by decide +kernel
theorem dL_copy_24 : decode cL_copy 24 = .ok (.iconst 0, 1) := by decide +kernel
theorem dL_copy_25 : decode cL_copy 25 = .ok (.ireturn, 1) := by decide +kernel
theorem dL_lose_0 : decode cL_lose 0 = .ok (.aload_n 3, 1) := by decide +kernel
theorem dL_lose_1 : decode cL_lose 1 = .ok (.iconst 0, 1) := by decide +kernel
theorem dL_lose_2 : decode cL_lose 2 = .ok (.aload_n 0, 1) := by decide +kernel
theorem dL_lose_3 : decode cL_lose 3 = .ok (.iload_n 1, 1) := by decide +kernel
theorem dL_lose_4 : decode cL_lose 4 = .ok (.iload_n 2, 1) := by decide +kernel
theorem dL_lose_5 : decode cL_lose 5 = .ok (.invokevirtual 37, 3) := by decide +kernel
theorem dL_lose_8 : decode cL_lose 8 = .ok (.i2l, 1) := by decide +kernel
theorem dL_lose_9 : decode cL_lose 9 = .ok (.lastore, 1) := by decide +kernel
theorem dL_lose_10 : decode cL_lose 10 = .ok (.goto 19, 3) := by decide +kernel
theorem dL_lose_13 : decode cL_lose 13 = .ok (.astore 4, 2) := by decide +kernel
theorem dL_lose_15 : decode cL_lose 15 = .ok (.iconst 1, 1) := by decide +kernel
theorem dL_lose_16 : decode cL_lose 16 = .ok (.ireturn, 1) := by decide +kernel
theorem dL_lose_17 : decode cL_lose 17 = .ok (.astore 4, 2) := by decide +kernel
theorem dL_lose_19 : decode cL_lose 19 = .ok (.iconst 2, 1) := by decide +kernel
theorem dL_lose_20 : decode cL_lose 20 = .ok (.ireturn, 1) := by decide +kernel
theorem dL_lose_21 : decode cL_lose 21 = .ok (.astore 4, 2) := by decide +kernel
theorem dL_lose_23 : decode cL_lose 23 = .ok (.iconst 3, 1) := by decide +kernel
theorem dL_lose_24 : decode cL_lose 24 = .ok (.ireturn, 1) := by decide +kernel
theorem dL_lose_25 : decode cL_lose 25 = .ok (.astore 4, 2) := by decide +kernel
theorem dL_lose_27 : decode cL_lose 27 = .ok (.iconst 4, 1) := by decide +kernel
theorem dL_lose_28 : decode cL_lose 28 = .ok (.ireturn, 1) := by decide +kernel
theorem dL_lose_29 : decode cL_lose 29 = .ok (.iconst 0, 1) := by decide +kernel
theorem dL_lose_30 : decode cL_lose 30 = .ok (.ireturn, 1) := by decide +kernel
theorem dL_resize_0 : decode cL_resize 0 = .ok (.aload_n 3, 1) := by decide +kernel
theorem dL_resize_1 : decode cL_resize 1 = .ok (.iconst 0, 1) := by decide +kernel
theorem dL_resize_2 : decode cL_resize 2 = .ok (.aload_n 0, 1) := by decide +kernel
theorem dL_resize_3 : decode cL_resize 3 = .ok (.iload_n 1, 1) := by decide +kernel
theorem dL_resize_4 : decode cL_resize 4 = .ok (.iload_n 2, 1) := by decide +kernel
theorem dL_resize_5 : decode cL_resize 5 = .ok (.invokevirtual 43, 3) := by decide +kernel
theorem dL_resize_8 : decode cL_resize 8 = .ok (.i2l, 1) := by decide +kernel
theorem dL_resize_9 : decode cL_resize 9 = .ok (.lastore, 1) := by decide +kernel
theorem dL_resize_10 : decode cL_resize 10 = .ok (.goto 19, 3) := by decide +kernel
theorem dL_resize_13 : decode cL_resize 13 = .ok (.astore 4, 2) := by decide +kernel
theorem dL_resize_15 : decode cL_resize 15 = .ok (.iconst 1, 1) := by decide +kernel
theorem dL_resize_16 : decode cL_resize 16 = .ok (.ireturn, 1) := by decide +kernel
theorem dL_resize_17 : decode cL_resize 17 = .ok (.astore 4, 2) := by decide +kernel
theorem dL_resize_19 : decode cL_resize 19 = .ok (.iconst 2, 1) := by decide +kernel
theorem dL_resize_20 : decode cL_resize 20 = .ok (.ireturn, 1) := by decide +kernel
theorem dL_resize_21 : decode cL_resize 21 = .ok (.astore 4, 2) := by decide +kernel
theorem dL_resize_23 : decode cL_resize 23 = .ok (.iconst 3, 1) := by decide +kernel
theorem dL_resize_24 : decode cL_resize 24 = .ok (.ireturn, 1) := by decide +kernel
theorem dL_resize_25 : decode cL_resize 25 = .ok (.astore 4, 2) := by decide +kernel
theorem dL_resize_27 : decode cL_resize 27 = .ok (.iconst 4, 1) := by decide +kernel
theorem dL_resize_28 : decode cL_resize 28 = .ok (.ireturn, 1) := by decide +kernel
theorem dL_resize_29 : decode cL_resize 29 = .ok (.iconst 0, 1) := by decide +kernel
theorem dL_resize_30 : decode cL_resize 30 = .ok (.ireturn, 1) := by decide +kernel
theorem dL_size_0 : decode cL_size 0 = .ok (.aload_n 2, 1) := by decide +kernel
theorem dL_size_1 : decode cL_size 1 = .ok (.iconst 0, 1) := by decide +kernel
theorem dL_size_2 : decode cL_size 2 = .ok (.aload_n 0, 1) := by decide +kernel
theorem dL_size_3 : decode cL_size 3 = .ok (.iload_n 1, 1) := by decide +kernel
theorem dL_size_4 : decode cL_size 4 = .ok (.invokevirtual 46, 3) := by decide +kernel
theorem dL_size_7 : decode cL_size 7 = .ok (.i2l, 1) := by decide +kernel
theorem dL_size_8 : decode cL_size 8 = .ok (.lastore, 1) := by decide +kernel
theorem dL_size_9 : decode cL_size 9 = .ok (.goto 12, 3) := by decide +kernel
theorem dL_size_12 : decode cL_size 12 = .ok (.astore_n 3, 1) := by decide +kernel
theorem dL_size_13 : decode cL_size 13 = .ok (.iconst 1, 1) := by decide +kernel
theorem dL_size_14 : decode cL_size 14 = .ok (.ireturn, 1) := by decide +kernel
theorem dL_size_15 : decode cL_size 15 = .ok (.astore_n 3, 1) := by decide +kernel
theorem dL_size_16 : decode cL_size 16 = .ok (.iconst 2, 1) := by decide +kernel
theorem dL_size_17 : decode cL_size 17 = .ok (.ireturn, 1) := by decide +kernel
theorem dL_size_18 : decode cL_size 18 = .ok (.astore_n 3, 1) := by decide +kernel
theorem dL_size_19 : decode cL_size 19 = .ok (.iconst 3, 1) := by decide +kernel
theorem dL_size_20 : decode cL_size 20 = .ok (.ireturn, 1) := by decide +kernel
theorem dL_size_21 : decode cL_size 21 = .ok (.iconst 0, 1) := by decide +kernel
theorem dL_size_22 : decode cL_size 22 = .ok (.ireturn, 1) := by decide +kernel
theorem dL_take_0 : decode cL_take 0 = .ok (.aload_n 3, 1) := by decide +kernel
theorem dL_take_1 : decode cL_take 1 = .ok (.iconst 0, 1) := by decide +kernel
theorem dL_take_2 : decode cL_take 2 = .ok (.aload_n 0, 1) := by decide +kernel
theorem dL_take_3 : decode cL_take 3 = .ok (.iload_n 1, 1) := by decide +kernel
