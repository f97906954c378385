theorem dX6_copy_56 : decode cX6_copy 56 = .ok (.iload_n 3, 1) := by decide +kernel
theorem dX6_copy_57 : decode cX6_copy 57 = .ok (.if_icmp .ne 7, 3) := by decide +kernel
theorem dX6_copy_60 : decode cX6_copy 60 = .ok (.iconst 1, 1) := by decide +kernel
theorem dX6_copy_61 : decode cX6_copy 61 = .ok (.goto 4, 3) := by decide +kernel
theorem dX6_copy_64 : decode cX6_copy 64 = .ok (.iconst 0, 1) := by decide +kernel
theorem dX6_copy_65 : decode cX6_copy 65 = .ok (.istore 4, 2) := by decide +kernel
theorem dX6_copy_67 : decode cX6_copy 67 = .ok (.aload_n 0, 1) := by decide +kernel
theorem dX6_copy_68 : decode cX6_copy 68 = .ok (.getfield 7, 3) := by decide +kernel
theorem dX6_copy_71 : decode cX6_copy 71 = .ok (.iload_n 1, 1) := by decide +kernel
theorem dX6_copy_72 : decode cX6_copy 72 = .ok (.iload_n 3, 1) := by decide +kernel
theorem dX6_copy_73 : decode cX6_copy 73 = .ok (.iastore, 1) := by decide +kernel
theorem dX6_copy_74 : decode cX6_copy 74 = .ok (.iload 4, 2) := by decide +kernel
theorem dX6_copy_76 : decode cX6_copy 76 = .ok (.ireturn, 1) := by decide +kernel
theorem dX6_lose_0 : decode cX6_lose 0 = .ok (.aload_n 0, 1) := by decide +kernel
theorem dX6_lose_1 : decode cX6_lose 1 = .ok (.iload_n 1, 1) := by decide +kernel
theorem dX6_lose_2 : decode cX6_lose 2 = .ok (.iconst 0, 1) := by decide +kernel
theorem dX6_lose_3 : decode cX6_lose 3 = .ok (.invokevirtual 61, 3) := by decide +kernel
theorem dX6_lose_6 : decode cX6_lose 6 = .ok (.ifCond .ne 5, 3) := by decide +kernel
theorem dX6_lose_9 : decode cX6_lose 9 = .ok (.iconst 0, 1) := by decide +kernel
theorem dX6_lose_10 : decode cX6_lose 10 = .ok (.ireturn, 1) := by decide +kernel
theorem dX6_lose_11 : decode cX6_lose 11 = .ok (.aload_n 0, 1) := by decide +kernel
theorem dX6_lose_12 : decode cX6_lose 12 = .ok (.getfield 7, 3) := by decide +kernel
theorem dX6_lose_15 : decode cX6_lose 15 = .ok (.iload_n 1, 1) := by decide +kernel
theorem dX6_lose_16 : decode cX6_lose 16 = .ok (.iaload, 1) := by decide +kernel
theorem dX6_lose_17 : decode cX6_lose 17 = .ok (.istore_n 3, 1) := by decide +kernel
theorem dX6_lose_18 : decode cX6_lose 18 = .ok (.aload_n 0, 1) := by decide +kernel
theorem dX6_lose_19 : decode cX6_lose 19 = .ok (.iload_n 3, 1) := by decide +kernel
theorem dX6_lose_20 : decode cX6_lose 20 = .ok (.ifCond .lt 7, 3) := by decide +kernel
theorem dX6_lose_23 : decode cX6_lose 23 = .ok (.iconst 1, 1) := by decide +kernel
theorem dX6_lose_24 : decode cX6_lose 24 = .ok (.goto 4, 3) := by decide +kernel
theorem dX6_lose_27 : decode cX6_lose 27 = .ok (.iconst 0, 1) := by decide +kernel
theorem dX6_lose_28 : decode cX6_lose 28 = .ok (.iconst 2, 1) := by decide +kernel
theorem dX6_lose_29 : decode cX6_lose 29 = .ok (.invokevirtual 44, 3) := by decide +kernel
theorem dX6_lose_32 : decode cX6_lose 32 = .ok (.ifCond .eq 27, 3) := by decide +kernel
theorem dX6_lose_35 : decode cX6_lose 35 = .ok (.aload_n 0, 1) := by decide +kernel
theorem dX6_lose_36 : decode cX6_lose 36 = .ok (.aload_n 0, 1) := by decide +kernel
theorem dX6_lose_37 : decode cX6_lose 37 = .ok (.getfield 13, 3) := by decide +kernel
theorem dX6_lose_40 : decode cX6_lose 40 = .ok (.iload_n 3, 1) := by decide +kernel
theorem dX6_lose_41 : decode cX6_lose 41 = .ok (.iaload, 1) := by decide +kernel
theorem dX6_lose_42 : decode cX6_lose 42 = .ok (.bipush 10, 2) := by decide +kernel
theorem dX6_lose_44 : decode cX6_lose 44 = .ok (.if_icmp .ge 7, 3) := by decide +kernel
theorem dX6_lose_47 : decode cX6_lose 47 = .ok (.iconst 1, 1) := by decide +kernel
theorem dX6_lose_48 : decode cX6_lose 48 = .ok (.goto 4, 3) := by decide +kernel
theorem dX6_lose_51 : decode cX6_lose 51 = .ok (.iconst 0, 1) := by decide +kernel
theorem dX6_lose_52 : decode cX6_lose 52 = .ok (.iconst 3, 1) := by decide +kernel
theorem dX6_lose_53 : decode cX6_lose 53 = .ok (.invokevirtual 44, 3) := by decide +kernel
theorem dX6_lose_56 : decode cX6_lose 56 = .ok (.ifCond .ne 5, 3) := by decide +kernel
theorem dX6_lose_59 : decode cX6_lose 59 = .ok (.iconst 0, 1) := by decide +kernel
theorem dX6_lose_60 : decode cX6_lose 60 = .ok (.ireturn, 1) := by decide +kernel
theorem dX6_lose_61 : decode cX6_lose 61 = .ok (.aload_n 0, 1) := by decide +kernel
theorem dX6_lose_62 : decode cX6_lose 62 = .ok (.getfield 13, 3) := by decide +kernel
theorem dX6_lose_65 : decode cX6_lose 65 = .ok (.iload_n 3, 1) := by decide +kernel
theorem dX6_lose_66 : decode cX6_lose 66 = .ok (.iaload, 1) := by decide +kernel
theorem dX6_lose_67 : decode cX6_lose 67 = .ok (.bipush 9, 2) := by decide +kernel
theorem dX6_lose_69 : decode cX6_lose 69 = .ok (.if_icmp .ne 7, 3) := by decide +kernel
theorem dX6_lose_72 : decode cX6_lose 72 = .ok (.iconst 1, 1) := by decide +kernel
theorem dX6_lose_73 : decode cX6_lose 73 = .ok (.goto 4, 3) := by decide +kernel
theorem dX6_lose_76 : decode cX6_lose 76 = .ok (.iconst 0, 1) := by decide +kernel
theorem dX6_lose_77 : decode cX6_lose 77 = .ok (.istore 4, 2) := by decide +kernel
theorem dX6_lose_79 : decode cX6_lose 79 = .ok (.iload 4, 2) := by decide +kernel
theorem dX6_lose_81 : decode cX6_lose 81 = .ok (.ifCond .eq 26, 3) := by decide +kernel
theorem dX6_lose_84 : decode cX6_lose 84 = .ok (.aload_n 0, 1) := by decide +kernel
theorem dX6_lose_85 : decode cX6_lose 85 = .ok (.iload_n 2, 1) := by decide +kernel
theorem dX6_lose_86 : decode cX6_lose 86 = .ok (.iconst 0, 1) := by decide +kernel
theorem dX6_lose_87 : decode cX6_lose 87 = .ok (.aload_n 0, 1) := by decide +kernel
theorem dX6_lose_88 : decode cX6_lose 88 = .ok (.getfield 16, 3) := by decide +kernel
theorem dX6_lose_91 : decode cX6_lose 91 = .ok (.iload_n 3, 1) := by decide +kernel
theorem dX6_lose_92 : decode cX6_lose 92 = .ok (.iaload, 1) := by decide +kernel
theorem dX6_lose_93 : decode cX6_lose 93 = .ok (.iconst 1, 1) := by decide +kernel
theorem dX6_lose_94 : decode cX6_lose 94 = .ok (.isub, 1) := by decide +kernel
theorem dX6_lose_95 : decode cX6_lose 95 = .ok (.invokestatic 40, 3) := by decide +kernel
theorem dX6_lose_98 : decode cX6_lose 98 = .ok (.iconst 4, 1) := by decide +kernel
theorem dX6_lose_99 : decode cX6_lose 99 = .ok (.invokevirtual 44, 3) := by decide +kernel
theorem dX6_lose_102 : decode cX6_lose 102 = .ok (.ifCond .ne 5, 3) := by decide +kernel
theorem dX6_lose_105 : decode cX6_lose 105 = .ok (.iconst 0, 1) := by decide +kernel
theorem dX6_lose_106 : decode cX6_lose 106 = .ok (.ireturn, 1) := by decide +kernel
theorem dX6_lose_107 : decode cX6_lose 107 = .ok (.bipush 6, 2) := by decide +kernel
theorem dX6_lose_109 : decode cX6_lose 109 = .ok (.iload_n 3, 1) := by decide +kernel
theorem dX6_lose_110 : decode cX6_lose 110 = .ok (.imul, 1) := by decide +kernel
theorem dX6_lose_111 : decode cX6_lose 111 = .ok (.iload 4, 2) := by decide +kernel
theorem dX6_lose_113 : decode cX6_lose 113 = .ok (.ifCond .eq 7, 3) := by decide +kernel
theorem dX6_lose_116 : decode cX6_lose 116 = .ok (.iload_n 2, 1) := by decide +kernel
theorem dX6_lose_117 : decode cX6_lose 117 = .ok (.goto 4, 3) := by decide +kernel
theorem dX6_lose_120 : decode cX6_lose 120 = .ok (.iconst 0, 1) := by decide +kernel
theorem dX6_lose_121 : decode cX6_lose 121 = .ok (.iadd, 1) := by decide +kernel
theorem dX6_lose_122 : decode cX6_lose 122 = .ok (.istore 5, 2) := by decide +kernel
theorem dX6_lose_124 : decode cX6_lose 124 = .ok (.aload_n 0, 1) := by decide +kernel
theorem dX6_lose_125 : decode cX6_lose 125 = .ok (.aload_n 0, 1) := by decide +kernel
theorem dX6_lose_126 : decode cX6_lose 126 = .ok (.getfield 32, 3) := by decide +kernel
theorem dX6_lose_129 : decode cX6_lose 129 = .ok (.iload 5, 2) := by decide +kernel
theorem dX6_lose_131 : decode cX6_lose 131 = .ok (.baload, 1) := by decide +kernel
theorem dX6_lose_132 : decode cX6_lose 132 = .ok (.ifCond .ne 7, 3) := by decide +kernel
theorem dX6_lose_135 : decode cX6_lose 135 = .ok (.iconst 1, 1) := by decide +kernel
theorem dX6_lose_136 : decode cX6_lose 136 = .ok (.goto 4, 3) := by decide +kernel
theorem dX6_lose_139 : decode cX6_lose 139 = .ok (.iconst 0, 1) := by decide +kernel
theorem dX6_lose_140 : decode cX6_lose 140 = .ok (.iconst 2, 1) := by decide +kernel
theorem dX6_lose_141 : decode cX6_lose 141 = .ok (.invokevirtual 44, 3) := by decide +kernel
theorem dX6_lose_144 : decode cX6_lose 144 = .ok (.ifCond .ne 5, 3) := by decide +kernel
theorem dX6_lose_147 : decode cX6_lose 147 = .ok (.iconst 0, 1) := by decide +kernel
theorem dX6_lose_148 : decode cX6_lose 148 = .ok (.ireturn, 1) := by decide +kernel
theorem dX6_lose_149 : decode cX6_lose 149 = .ok (.aload_n 0, 1) := by decide +kernel
theorem dX6_lose_150 : decode cX6_lose 150 = .ok (.getfield 32, 3) := by decide +kernel
theorem dX6_lose_153 : decode cX6_lose 153 = .ok (.iload 5, 2) := by decide +kernel
theorem dX6_lose_155 : decode cX6_lose 155 = .ok (.iconst 1, 1) := by decide +kernel
theorem dX6_lose_156 : decode cX6_lose 156 = .ok (.bastore, 1) := by decide +kernel
theorem dX6_lose_157 : decode cX6_lose 157 = .ok (.iload 4, 2) := by decide +kernel
theorem dX6_lose_159 : decode cX6_lose 159 = .ok (.ifCond .eq 12, 3) := by decide +kernel
theorem dX6_lose_162 : decode cX6_lose 162 = .ok (.aload_n 0, 1) := by decide +kernel
theorem dX6_lose_163 : decode cX6_lose 163 = .ok (.getfield 19, 3) := by decide +kernel
theorem dX6_lose_166 : decode cX6_lose 166 = .ok (.iload_n 3, 1) := by decide +kernel
theorem dX6_lose_167 : decode cX6_lose 167 = .ok (.iaload, 1) := by decide +kernel
theorem dX6_lose_168 : decode cX6_lose 168 = .ok (.goto 9, 3) := by decide +kernel
theorem dX6_lose_171 : decode cX6_lose 171 = .ok (.aload_n 0, 1) := by decide +kernel
theorem dX6_lose_172 : decode cX6_lose 172 = .ok (.getfield 16, 3) := by decide +kernel
theorem dX6_lose_175 : decode cX6_lose 175 = .ok (.iload_n 3, 1) := by decide +kernel
theorem dX6_lose_176 : decode cX6_lose 176 = .ok (.iaload, 1) := by decide +kernel
theorem dX6_lose_177 : decode cX6_lose 177 = .ok (.ireturn, 1) := by decide +kernel
theorem dX6_resize_0 : decode cX6_resize 0 = .ok (.aload_n 0, 1) := by decide +kernel
theorem dX6_resize_1 : decode cX6_resize 1 = .ok (.iload_n 1, 1) := by decide +kernel
theorem dX6_resize_2 : decode cX6_resize 2 = .ok (.iconst 0, 1) := by decide +kernel
theorem dX6_resize_3 : decode cX6_resize 3 = .ok (.bipush 7, 2) := by decide +kernel
theorem dX6_resize_5 : decode cX6_resize 5 = .ok (.invokestatic 40, 3) := by decide +kernel
theorem dX6_resize_8 : decode cX6_resize 8 = .ok (.ifCond .eq 13, 3) := by decide +kernel
theorem dX6_resize_11 : decode cX6_resize 11 = .ok (.iload_n 2, 1) := by decide +kernel
theorem dX6_resize_12 : decode cX6_resize 12 = .ok (.bipush 24, 2) := by decide +kernel
theorem dX6_resize_14 : decode cX6_resize 14 = .ok (.if_icmp .gt 7, 3) := by decide +kernel
theorem dX6_resize_17 : decode cX6_resize 17 = .ok (.iconst 1, 1) := by decide +kernel
theorem dX6_resize_18 : decode cX6_resize 18 = .ok (.goto 4, 3) := by decide +kernel
theorem dX6_resize_21 : decode cX6_resize 21 = .ok (.iconst 0, 1) := by decide +kernel
theorem dX6_resize_22 : decode cX6_resize 22 = .ok (.iconst 1, 1) := by decide +kernel
theorem dX6_resize_23 : decode cX6_resize 23 = .ok (.invokevirtual 44, 3) := by decide +kernel
theorem dX6_resize_26 : decode cX6_resize 26 = .ok (.ifCond .ne 5, 3) := by decide +kernel
theorem dX6_resize_29 : decode cX6_resize 29 = .ok (.iconst 0, 1) := by decide +kernel
theorem dX6_resize_30 : decode cX6_resize 30 = .ok (.ireturn, 1) := by decide +kernel
theorem dX6_resize_31 : decode cX6_resize 31 = .ok (.aload_n 0, 1) := by decide +kernel
theorem dX6_resize_32 : decode cX6_resize 32 = .ok (.getfield 7, 3) := by decide +kernel
theorem dX6_resize_35 : decode cX6_resize 35 = .ok (.iload_n 1, 1) := by decide +kernel
theorem dX6_resize_36 : decode cX6_resize 36 = .ok (.iaload, 1) := by decide +kernel
theorem dX6_resize_37 : decode cX6_resize 37 = .ok (.istore_n 3, 1) := by decide +kernel
theorem dX6_resize_38 : decode cX6_resize 38 = .ok (.aload_n 0, 1) := by decide +kernel
theorem dX6_resize_39 : decode cX6_resize 39 = .ok (.iload_n 3, 1) := by decide +kernel
theorem dX6_resize_40 : decode cX6_resize 40 = .ok (.ifCond .lt 7, 3) := by decide +kernel
theorem dX6_resize_43 : decode cX6_resize 43 = .ok (.iconst 1, 1) := by decide +kernel
theorem dX6_resize_44 : decode cX6_resize 44 = .ok (.goto 4, 3) := by decide +kernel
theorem dX6_resize_47 : decode cX6_resize 47 = .ok (.iconst 0, 1) := by decide +kernel
theorem dX6_resize_48 : decode cX6_resize 48 = .ok (.iconst 2, 1) := by decide +kernel
theorem dX6_resize_49 : decode cX6_resize 49 = .ok (.invokevirtual 44, 3) := by decide +kernel
theorem dX6_resize_52 : decode cX6_resize 52 = .ok (.ifCond .eq 69, 3) := by decide +kernel
theorem dX6_resize_55 : decode cX6_resize 55 = .ok (.aload_n 0, 1) := by decide +kernel
theorem dX6_resize_56 : decode cX6_resize 56 = .ok (.aload_n 0, 1) := by decide +kernel
theorem dX6_resize_57 : decode cX6_resize 57 = .ok (.getfield 13, 3) := by decide +kernel
theorem dX6_resize_60 : decode cX6_resize 60 = .ok (.iload_n 3, 1) := by decide +kernel
theorem dX6_resize_61 : decode cX6_resize 61 = .ok (.iaload, 1) := by decide +kernel
theorem dX6_resize_62 : decode cX6_resize 62 = .ok (.bipush 9, 2) := by decide +kernel
theorem dX6_resize_64 : decode cX6_resize 64 = .ok (.if_icmp .ge 7, 3) := by decide +kernel
theorem dX6_resize_67 : decode cX6_resize 67 = .ok (.iconst 1, 1) := by decide +kernel
theorem dX6_resize_68 : decode cX6_resize 68 = .ok (.goto 4, 3) := by decide +kernel
theorem dX6_resize_71 : decode cX6_resize 71 = .ok (.iconst 0, 1) := by decide +kernel
theorem dX6_resize_72 : decode cX6_resize 72 = .ok (.iconst 3, 1) := by decide +kernel
theorem dX6_resize_73 : decode cX6_resize 73 = .ok (.invokevirtual 44, 3) := by decide +kernel
theorem dX6_resize_76 : decode cX6_resize 76 = .ok (.ifCond .eq 45, 3) := by decide +kernel
theorem dX6_resize_79 : decode cX6_resize 79 = .ok (.aload_n 0, 1) := by decide +kernel
theorem dX6_resize_80 : decode cX6_resize 80 = .ok (.iload_n 2, 1) := by decide +kernel
theorem dX6_resize_81 : decode cX6_resize 81 = .ok (.ifCond .lt 7, 3) := by decide +kernel
theorem dX6_resize_84 : decode cX6_resize 84 = .ok (.iconst 1, 1) := by decide +kernel
theorem dX6_resize_85 : decode cX6_resize 85 = .ok (.goto 4, 3) := by decide +kernel
theorem dX6_resize_88 : decode cX6_resize 88 = .ok (.iconst 0, 1) := by decide +kernel
theorem dX6_resize_89 : decode cX6_resize 89 = .ok (.iconst 4, 1) := by decide +kernel
theorem dX6_resize_90 : decode cX6_resize 90 = .ok (.invokevirtual 44, 3) := by decide +kernel
theorem dX6_resize_93 : decode cX6_resize 93 = .ok (.ifCond .eq 28, 3) := by decide +kernel
theorem dX6_resize_96 : decode cX6_resize 96 = .ok (.aload_n 0, 1) := by decide +kernel
theorem dX6_resize_97 : decode cX6_resize 97 = .ok (.aload_n 0, 1) := by decide +kernel
theorem dX6_resize_98 : decode cX6_resize 98 = .ok (.getfield 32, 3) := by decide +kernel
theorem dX6_resize_101 : decode cX6_resize 101 = .ok (.bipush 6, 2) := by decide +kernel
theorem dX6_resize_103 : decode cX6_resize 103 = .ok (.iload_n 3, 1) := by decide +kernel
theorem dX6_resize_104 : decode cX6_resize 104 = .ok (.imul, 1) := by decide +kernel
theorem dX6_resize_105 : decode cX6_resize 105 = .ok (.baload, 1) := by decide +kernel
theorem dX6_resize_106 : decode cX6_resize 106 = .ok (.ifCond .ne 7, 3) := by decide +kernel
theorem dX6_resize_109 : decode cX6_resize 109 = .ok (.iconst 1, 1) := by decide +kernel
theorem dX6_resize_110 : decode cX6_resize 110 = .ok (.goto 4, 3) := by decide +kernel
theorem dX6_resize_113 : decode cX6_resize 113 = .ok (.iconst 0, 1) := by decide +kernel
theorem dX6_resize_114 : decode cX6_resize 114 = .ok (.iconst 2, 1) := by decide +kernel
theorem dX6_resize_115 : decode cX6_resize 115 = .ok (.invokevirtual 44, 3) := by decide +kernel
theorem dX6_resize_118 : decode cX6_resize 118 = .ok (.ifCond .ne 5, 3) := by decide +kernel
theorem dX6_resize_121 : decode cX6_resize 121 = .ok (.iconst 0, 1) := by decide +kernel
theorem dX6_resize_122 : decode cX6_resize 122 = .ok (.ireturn, 1) := by decide +kernel
theorem dX6_resize_123 : decode cX6_resize 123 = .ok (.aload_n 0, 1) := by decide +kernel
theorem dX6_resize_124 : decode cX6_resize 124 = .ok (.getfield 16, 3) := by decide +kernel
theorem dX6_resize_127 : decode cX6_resize 127 = .ok (.iload_n 3, 1) := by decide +kernel
theorem dX6_resize_128 : decode cX6_resize 128 = .ok (.iaload, 1) := by decide +kernel
theorem dX6_resize_129 : decode cX6_resize 129 = .ok (.iload_n 2, 1) := by decide +kernel
theorem dX6_resize_130 : decode cX6_resize 130 = .ok (.if_icmp .ge 12, 3) := by decide +kernel
theorem dX6_resize_133 : decode cX6_resize 133 = .ok (.aload_n 0, 1) := by decide +kernel
theorem dX6_resize_134 : decode cX6_resize 134 = .ok (.getfield 16, 3) := by decide +kernel
theorem dX6_resize_137 : decode cX6_resize 137 = .ok (.iload_n 3, 1) := by decide +kernel
theorem dX6_resize_138 : decode cX6_resize 138 = .ok (.iaload, 1) := by decide +kernel
theorem dX6_resize_139 : decode cX6_resize 139 = .ok (.goto 4, 3) := by decide +kernel
theorem dX6_resize_142 : decode cX6_resize 142 = .ok (.iload_n 2, 1) := by decide +kernel
theorem dX6_resize_143 : decode cX6_resize 143 = .ok (.istore 4, 2) := by decide +kernel
theorem dX6_resize_145 : decode cX6_resize 145 = .ok (.iload 4, 2) := by decide +kernel
theorem dX6_resize_147 : decode cX6_resize 147 = .ok (.istore 5, 2) := by decide +kernel
theorem dX6_resize_149 : decode cX6_resize 149 = .ok (.iload 5, 2) := by decide +kernel
theorem dX6_resize_151 : decode cX6_resize 151 = .ok (.bipush 24, 2) := by decide +kernel
theorem dX6_resize_153 : decode cX6_resize 153 = .ok (.if_icmp .ge 39, 3) := by decide +kernel
theorem dX6_resize_156 : decode cX6_resize 156 = .ok (.aload_n 0, 1) := by decide +kernel
theorem dX6_resize_157 : decode cX6_resize 157 = .ok (.getfield 28, 3) := by decide +kernel
theorem dX6_resize_160 : decode cX6_resize 160 = .ok (.bipush 24, 2) := by decide +kernel
theorem dX6_resize_162 : decode cX6_resize 162 = .ok (.iload_n 3, 1) := by decide +kernel
theorem dX6_resize_163 : decode cX6_resize 163 = .ok (.imul, 1) := by decide +kernel
theorem dX6_resize_164 : decode cX6_resize 164 = .ok (.iload 5, 2) := by decide +kernel
theorem dX6_resize_166 : decode cX6_resize 166 = .ok (.iadd, 1) := by decide +kernel
theorem dX6_resize_167 : decode cX6_resize 167 = .ok (.aload_n 0, 1) := by decide +kernel
theorem dX6_resize_168 : decode cX6_resize 168 = .ok (.getfield 13, 3) := by decide +kernel
theorem dX6_resize_171 : decode cX6_resize 171 = .ok (.iload_n 3, 1) := by decide +kernel
theorem dX6_resize_172 : decode cX6_resize 172 = .ok (.iaload, 1) := by decide +kernel
theorem dX6_resize_173 : decode cX6_resize 173 = .ok (.bipush 8, 2) := by decide +kernel
theorem dX6_resize_175 : decode cX6_resize 175 = .ok (.if_icmp .ne 9, 3) := by decide +kernel
theorem dX6_resize_178 : decode cX6_resize 178 = .ok (.ldc2_w 51, 3) := by decide +kernel
theorem dX6_resize_181 : decode cX6_resize 181 = .ok (.goto 4, 3) := by decide +kernel
theorem dX6_resize_184 : decode cX6_resize 184 = .ok (.lconst 0, 1) := by decide +kernel
theorem dX6_resize_185 : decode cX6_resize 185 = .ok (.lastore, 1) := by decide +kernel
theorem dX6_resize_186 : decode cX6_resize 186 = .ok (.iinc 5 1, 3) := by decide +kernel
theorem dX6_resize_189 : decode cX6_resize 189 = .ok (.goto (-40), 3) := by decide +kernel
theorem dX6_resize_192 : decode cX6_resize 192 = .ok (.aload_n 0, 1) := by decide +kernel
theorem dX6_resize_193 : decode cX6_resize 193 = .ok (.getfield 16, 3) := by decide +kernel
theorem dX6_resize_196 : decode cX6_resize 196 = .ok (.iload_n 3, 1) := by decide +kernel
theorem dX6_resize_197 : decode cX6_resize 197 = .ok (.iload_n 2, 1) := by decide +kernel
theorem dX6_resize_198 : decode cX6_resize 198 = .ok (.iastore, 1) := by decide +kernel
theorem dX6_resize_199 : decode cX6_resize 199 = .ok (.iload 4, 2) := by decide +kernel
theorem dX6_resize_201 : decode cX6_resize 201 = .ok (.ireturn, 1) := by decide +kernel
theorem dX6_size_0 : decode cX6_size 0 = .ok (.aload_n 0, 1) := by decide +kernel
theorem dX6_size_1 : decode cX6_size 1 = .ok (.iload_n 1, 1) := by decide +kernel
theorem dX6_size_2 : decode cX6_size 2 = .ok (.iconst 0, 1) := by decide +kernel
theorem dX6_size_3 : decode cX6_size 3 = .ok (.invokevirtual 61, 3) := by decide +kernel
theorem dX6_size_6 : decode cX6_size 6 = .ok (.ifCond .ne 5, 3) := by decide +kernel
theorem dX6_size_9 : decode cX6_size 9 = .ok (.iconst 0, 1) := by decide +kernel
theorem dX6_size_10 : decode cX6_size 10 = .ok (.ireturn, 1) := by decide +kernel
theorem dX6_size_11 : decode cX6_size 11 = .ok (.aload_n 0, 1) := by decide +kernel
theorem dX6_size_12 : decode cX6_size 12 = .ok (.getfield 7, 3) := by decide +kernel
theorem dX6_size_15 : decode cX6_size 15 = .ok (.iload_n 1, 1) := by decide +kernel
theorem dX6_size_16 : decode cX6_size 16 = .ok (.iaload, 1) := by decide +kernel
theorem dX6_size_17 : decode cX6_size 17 = .ok (.istore_n 2, 1) := by decide +kernel
theorem dX6_size_18 : decode cX6_size 18 = .ok (.aload_n 0, 1) := by decide +kernel
theorem dX6_size_19 : decode cX6_size 19 = .ok (.iload_n 2, 1) := by decide +kernel
theorem dX6_size_20 : decode cX6_size 20 = .ok (.ifCond .lt 7, 3) := by decide +kernel
theorem dX6_size_23 : decode cX6_size 23 = .ok (.iconst 1, 1) := by decide +kernel
theorem dX6_size_24 : decode cX6_size 24 = .ok (.goto 4, 3) := by decide +kernel
theorem dX6_size_27 : decode cX6_size 27 = .ok (.iconst 0, 1) := by decide +kernel
theorem dX6_size_28 : decode cX6_size 28 = .ok (.iconst 2, 1) := by decide +kernel
theorem dX6_size_29 : decode cX6_size 29 = .ok (.invokevirtual 44, 3) := by decide +kernel
theorem dX6_size_32 : decode cX6_size 32 = .ok (.ifCond .eq 27, 3) := by decide +kernel
theorem dX6_size_35 : decode cX6_size 35 = .ok (.aload_n 0, 1) := by decide +kernel
theorem dX6_size_36 : decode cX6_size 36 = .ok (.aload_n 0, 1) := by decide +kernel
theorem dX6_size_37 : decode cX6_size 37 = .ok (.getfield 13, 3) := by decide +kernel
theorem dX6_size_40 : decode cX6_size 40 = .ok (.iload_n 2, 1) := by decide +kernel
theorem dX6_size_41 : decode cX6_size 41 = .ok (.iaload, 1) := by decide +kernel
theorem dX6_size_42 : decode cX6_size 42 = .ok (.bipush 10, 2) := by decide +kernel
theorem dX6_size_44 : decode cX6_size 44 = .ok (.if_icmp .eq 7, 3) := by decide +kernel
theorem dX6_size_47 : decode cX6_size 47 = .ok (.iconst 1, 1) := by decide +kernel
theorem dX6_size_48 : decode cX6_size 48 = .ok (.goto 4, 3) := by decide +kernel
theorem dX6_size_51 : decode cX6_size 51 = .ok (.iconst 0, 1) := by decide +kernel
theorem dX6_size_52 : decode cX6_size 52 = .ok (.iconst 3, 1) := by decide +kernel
theorem dX6_size_53 : decode cX6_size 53 = .ok (.invokevirtual 44, 3) := by decide +kernel
theorem dX6_size_56 : decode cX6_size 56 = .ok (.ifCond .ne 5, 3) := by decide +kernel
theorem dX6_size_59 : decode cX6_size 59 = .ok (.iconst 0, 1) := by decide +kernel
theorem dX6_size_60 : decode cX6_size 60 = .ok (.ireturn, 1) := by decide +kernel
theorem dX6_size_61 : decode cX6_size 61 = .ok (.iconst 0, 1) := by decide +kernel
theorem dX6_size_62 : decode cX6_size 62 = .ok (.istore_n 3, 1) := by decide +kernel
theorem dX6_size_63 : decode cX6_size 63 = .ok (.iload_n 2, 1) := by decide +kernel
theorem dX6_size_64 : decode cX6_size 64 = .ok (.istore 4, 2) := by decide +kernel
theorem dX6_size_66 : decode cX6_size 66 = .ok (.aload_n 0, 1) := by decide +kernel
theorem dX6_size_67 : decode cX6_size 67 = .ok (.getfield 13, 3) := by decide +kernel
theorem dX6_size_70 : decode cX6_size 70 = .ok (.iload 4, 2) := by decide +kernel
theorem dX6_size_72 : decode cX6_size 72 = .ok (.iaload, 1) := by decide +kernel
theorem dX6_size_73 : decode cX6_size 73 = .ok (.bipush 11, 2) := by decide +kernel
theorem dX6_size_75 : decode cX6_size 75 = .ok (.if_icmp .ne 25, 3) := by decide +kernel
theorem dX6_size_78 : decode cX6_size 78 = .ok (.iload_n 3, 1) := by decide +kernel
theorem dX6_size_79 : decode cX6_size 79 = .ok (.aload_n 0, 1) := by decide +kernel
theorem dX6_size_80 : decode cX6_size 80 = .ok (.getfield 25, 3) := by decide +kernel
theorem dX6_size_83 : decode cX6_size 83 = .ok (.iload 4, 2) := by decide +kernel
theorem dX6_size_85 : decode cX6_size 85 = .ok (.iaload, 1) := by decide +kernel
theorem dX6_size_86 : decode cX6_size 86 = .ok (.iadd, 1) := by decide +kernel
theorem dX6_size_87 : decode cX6_size 87 = .ok (.istore_n 3, 1) := by decide +kernel
theorem dX6_size_88 : decode cX6_size 88 = .ok (.aload_n 0, 1) := by decide +kernel
theorem dX6_size_89 : decode cX6_size 89 = .ok (.getfield 22, 3) := by decide +kernel
theorem dX6_size_92 : decode cX6_size 92 = .ok (.iload 4, 2) := by decide +kernel
theorem dX6_size_94 : decode cX6_size 94 = .ok (.iaload, 1) := by decide +kernel
theorem dX6_size_95 : decode cX6_size 95 = .ok (.istore 4, 2) := by decide +kernel
theorem dX6_size_97 : decode cX6_size 97 = .ok (.goto (-31), 3) := by decide +kernel
theorem dX6_size_100 : decode cX6_size 100 = .ok (.aload_n 0, 1) := by decide +kernel
theorem dX6_size_101 : decode cX6_size 101 = .ok (.aload_n 0, 1) := by decide +kernel
theorem dX6_size_102 : decode cX6_size 102 = .ok (.getfield 13, 3) := by decide +kernel
theorem dX6_size_105 : decode cX6_size 105 = .ok (.iload 4, 2) := by decide +kernel
theorem dX6_size_107 : decode cX6_size 107 = .ok (.iaload, 1) := by decide +kernel
theorem dX6_size_108 : decode cX6_size 108 = .ok (.bipush 9, 2) := by decide +kernel
theorem dX6_size_110 : decode cX6_size 110 = .ok (.if_icmp .eq 16, 3) := by decide +kernel
theorem dX6_size_113 : decode cX6_size 113 = .ok (.aload_n 0, 1) := by decide +kernel
theorem dX6_size_114 : decode cX6_size 114 = .ok (.getfield 32, 3) := by decide +kernel
theorem dX6_size_117 : decode cX6_size 117 = .ok (.bipush 6, 2) := by decide +kernel
theorem dX6_size_119 : decode cX6_size 119 = .ok (.iload 4, 2) := by decide +kernel
theorem dX6_size_121 : decode cX6_size 121 = .ok (.imul, 1) := by decide +kernel
theorem dX6_size_122 : decode cX6_size 122 = .ok (.baload, 1) := by decide +kernel
theorem dX6_size_123 : decode cX6_size 123 = .ok (.ifCond .ne 7, 3) := by decide +kernel
theorem dX6_size_126 : decode cX6_size 126 = .ok (.iconst 1, 1) := by decide +kernel
theorem dX6_size_127 : decode cX6_size 127 = .ok (.goto 4, 3) := by decide +kernel
theorem dX6_size_130 : decode cX6_size 130 = .ok (.iconst 0, 1) := by decide +kernel
theorem dX6_size_131 : decode cX6_size 131 = .ok (.iconst 2, 1) := by decide +kernel
theorem dX6_size_132 : decode cX6_size 132 = .ok (.invokevirtual 44, 3) := by decide +kernel
theorem dX6_size_135 : decode cX6_size 135 = .ok (.ifCond .ne 5, 3) := by decide +kernel
theorem dX6_size_138 : decode cX6_size 138 = .ok (.iconst 0, 1) := by decide +kernel
theorem dX6_size_139 : decode cX6_size 139 = .ok (.ireturn, 1) := by decide +kernel
theorem dX6_size_140 : decode cX6_size 140 = .ok (.aload_n 0, 1) := by decide +kernel
theorem dX6_size_141 : decode cX6_size 141 = .ok (.getfield 16, 3) := by decide +kernel
theorem dX6_size_144 : decode cX6_size 144 = .ok (.iload 4, 2) := by decide +kernel
theorem dX6_size_146 : decode cX6_size 146 = .ok (.iaload, 1) := by decide +kernel
theorem dX6_size_147 : decode cX6_size 147 = .ok (.iload_n 3, 1) := by decide +kernel
theorem dX6_size_148 : decode cX6_size 148 = .ok (.isub, 1) := by decide +kernel
theorem dX6_size_149 : decode cX6_size 149 = .ok (.ireturn, 1) := by decide +kernel
theorem dX6_find_0 : decode cX6_find 0 = .ok (.iload_n 1, 1) := by decide +kernel
theorem dX6_find_1 : decode cX6_find 1 = .ok (.istore_n 3, 1) := by decide +kernel
theorem dX6_find_2 : decode cX6_find 2 = .ok (.aload_n 0, 1) := by decide +kernel
theorem dX6_find_3 : decode cX6_find 3 = .ok (.iload_n 2, 1) := by decide +kernel
theorem dX6_find_4 : decode cX6_find 4 = .ok (.putfield 68, 3) := by decide +kernel
theorem dX6_find_7 : decode cX6_find 7 = .ok (.aload_n 0, 1) := by decide +kernel
theorem dX6_find_8 : decode cX6_find 8 = .ok (.getfield 13, 3) := by decide +kernel
theorem dX6_find_11 : decode cX6_find 11 = .ok (.iload_n 3, 1) := by decide +kernel
theorem dX6_find_12 : decode cX6_find 12 = .ok (.iaload, 1) := by decide +kernel
theorem dX6_find_13 : decode cX6_find 13 = .ok (.bipush 11, 2) := by decide +kernel
theorem dX6_find_15 : decode cX6_find 15 = .ok (.if_icmp .ne 28, 3) := by decide +kernel
theorem dX6_find_18 : decode cX6_find 18 = .ok (.aload_n 0, 1) := by decide +kernel
theorem dX6_find_19 : decode cX6_find 19 = .ok (.dup, 1) := by decide +kernel
theorem dX6_find_20 : decode cX6_find 20 = .ok (.getfield 68, 3) := by decide +kernel
theorem dX6_find_23 : decode cX6_find 23 = .ok (.aload_n 0, 1) := by decide +kernel
theorem dX6_find_24 : decode cX6_find 24 = .ok (.getfield 25, 3) := by decide +kernel
theorem dX6_find_27 : decode cX6_find 27 = .ok (.iload_n 3, 1) := by decide +kernel
theorem dX6_find_28 : decode cX6_find 28 = .ok (.iaload, 1) := by decide +kernel
theorem dX6_find_29 : decode cX6_find 29 = .ok (.iadd, 1) := by decide +kernel
theorem dX6_find_30 : decode cX6_find 30 = .ok (.putfield 68, 3) := by decide +kernel
theorem dX6_find_33 : decode cX6_find 33 = .ok (.aload_n 0, 1) := by decide +kernel
theorem dX6_find_34 : decode cX6_find 34 = .ok (.getfield 22, 3) := by decide +kernel
theorem dX6_find_37 : decode cX6_find 37 = .ok (.iload_n 3, 1) := by decide +kernel
theorem dX6_find_38 : decode cX6_find 38 = .ok (.iaload, 1) := by decide +kernel
theorem dX6_find_39 : decode cX6_find 39 = .ok (.istore_n 3, 1) := by decide +kernel
theorem dX6_find_40 : decode cX6_find 40 = .ok (.goto (-33), 3) := by decide +kernel
theorem dX6_find_43 : decode cX6_find 43 = .ok (.aload_n 0, 1) := by decide +kernel
theorem dX6_find_44 : decode cX6_find 44 = .ok (.iload_n 3, 1) := by decide +kernel
theorem dX6_find_45 : decode cX6_find 45 = .ok (.putfield 71, 3) := by decide +kernel
theorem dX6_find_48 : decode cX6_find 48 = .ok (.aload_n 0, 1) := by decide +kernel
theorem dX6_find_49 : decode cX6_find 49 = .ok (.getfield 32, 3) := by decide +kernel
theorem dX6_find_52 : decode cX6_find 52 = .ok (.bipush 6, 2) := by decide +kernel
theorem dX6_find_54 : decode cX6_find 54 = .ok (.iload_n 3, 1) := by decide +kernel
theorem dX6_find_55 : decode cX6_find 55 = .ok (.imul, 1) := by decide +kernel
theorem dX6_find_56 : decode cX6_find 56 = .ok (.baload, 1) := by decide +kernel
theorem dX6_find_57 : decode cX6_find 57 = .ok (.ifCond .eq 7, 3) := by decide +kernel
theorem dX6_find_60 : decode cX6_find 60 = .ok (.iconst 2, 1) := by decide +kernel
theorem dX6_find_61 : decode cX6_find 61 = .ok (.goto 27, 3) := by decide +kernel
theorem dX6_find_64 : decode cX6_find 64 = .ok (.aload_n 0, 1) := by decide +kernel
theorem dX6_find_65 : decode cX6_find 65 = .ok (.getfield 68, 3) := by decide +kernel
theorem dX6_find_68 : decode cX6_find 68 = .ok (.iconst 0, 1) := by decide +kernel
theorem dX6_find_69 : decode cX6_find 69 = .ok (.aload_n 0, 1) := by decide +kernel
theorem dX6_find_70 : decode cX6_find 70 = .ok (.getfield 16, 3) := by decide +kernel
theorem dX6_find_73 : decode cX6_find 73 = .ok (.iload_n 3, 1) := by decide +kernel
theorem dX6_find_74 : decode cX6_find 74 = .ok (.iaload, 1) := by decide +kernel
theorem dX6_find_75 : decode cX6_find 75 = .ok (.iconst 1, 1) := by decide +kernel
theorem dX6_find_76 : decode cX6_find 76 = .ok (.isub, 1) := by decide +kernel
theorem dX6_find_77 : decode cX6_find 77 = .ok (.invokestatic 40, 3) := by decide +kernel
theorem dX6_find_80 : decode cX6_find 80 = .ok (.ifCond .eq 7, 3) := by decide +kernel
theorem dX6_find_83 : decode cX6_find 83 = .ok (.iconst 0, 1) := by decide +kernel
theorem dX6_find_84 : decode cX6_find 84 = .ok (.goto 4, 3) := by decide +kernel
theorem dX6_find_87 : decode cX6_find 87 = .ok (.iconst 4, 1) := by decide +kernel
theorem dX6_find_88 : decode cX6_find 88 = .ok (.ireturn, 1) := by decide +kernel
theorem dX6_fit_0 : decode cX6_fit 0 = .ok (.iload_n 0, 1) := by decide +kernel
theorem dX6_fit_1 : decode cX6_fit 1 = .ok (.ifCond .ne 15, 3) := by decide +kernel
theorem dX6_fit_4 : decode cX6_fit 4 = .ok (.lload_n 1, 1) := by decide +kernel
theorem dX6_fit_5 : decode cX6_fit 5 = .ok (.lconst 0, 1) := by decide +kernel
theorem dX6_fit_6 : decode cX6_fit 6 = .ok (.lcmp, 1) := by decide +kernel
theorem dX6_fit_7 : decode cX6_fit 7 = .ok (.ifCond .ne 7, 3) := by decide +kernel
theorem dX6_fit_10 : decode cX6_fit 10 = .ok (.lconst 0, 1) := by decide +kernel
theorem dX6_fit_11 : decode cX6_fit 11 = .ok (.goto 4, 3) := by decide +kernel
theorem dX6_fit_14 : decode cX6_fit 14 = .ok (.lconst 1, 1) := by decide +kernel
theorem dX6_fit_15 : decode cX6_fit 15 = .ok (.lreturn, 1) := by decide +kernel
theorem dX6_fit_16 : decode cX6_fit 16 = .ok (.iload_n 0, 1) := by decide +kernel
theorem dX6_fit_17 : decode cX6_fit 17 = .ok (.iconst 1, 1) := by decide +kernel
theorem dX6_fit_18 : decode cX6_fit 18 = .ok (.if_icmp .ne 8, 3) := by decide +kernel
theorem dX6_fit_21 : decode cX6_fit 21 = .ok (.lload_n 1, 1) := by decide +kernel
theorem dX6_fit_22 : decode cX6_fit 22 = .ok (.l2i, 1) := by decide +kernel
theorem dX6_fit_23 : decode cX6_fit 23 = .ok (.i2b, 1) := by decide +kernel
theorem dX6_fit_24 : decode cX6_fit 24 = .ok (.i2l, 1) := by decide +kernel
theorem dX6_fit_25 : decode cX6_fit 25 = .ok (.lreturn, 1) := by decide +kernel
theorem dX6_fit_26 : decode cX6_fit 26 = .ok (.iload_n 0, 1) := by decide +kernel
theorem dX6_fit_27 : decode cX6_fit 27 = .ok (.iconst 2, 1) := by decide +kernel
theorem dX6_fit_28 : decode cX6_fit 28 = .ok (.if_icmp .ne 8, 3) := by decide +kernel
theorem dX6_fit_31 : decode cX6_fit 31 = .ok (.lload_n 1, 1) := by decide +kernel
theorem dX6_fit_32 : decode cX6_fit 32 = .ok (.l2i, 1) := by decide +kernel
theorem dX6_fit_33 : decode cX6_fit 33 = .ok (.i2s, 1) := by decide +kernel
theorem dX6_fit_34 : decode cX6_fit 34 = .ok (.i2l, 1) := by decide +kernel
theorem dX6_fit_35 : decode cX6_fit 35 = .ok (.lreturn, 1) := by decide +kernel
theorem dX6_fit_36 : decode cX6_fit 36 = .ok (.iload_n 0, 1) := by decide +kernel
theorem dX6_fit_37 : decode cX6_fit 37 = .ok (.iconst 3, 1) := by decide +kernel
theorem dX6_fit_38 : decode cX6_fit 38 = .ok (.if_icmp .ne 9, 3) := by decide +kernel
theorem dX6_fit_41 : decode cX6_fit 41 = .ok (.lload_n 1, 1) := by decide +kernel
theorem dX6_fit_42 : decode cX6_fit 42 = .ok (.ldc2_w 74, 3) := by decide +kernel
theorem dX6_fit_45 : decode cX6_fit 45 = .ok (.land, 1) := by decide +kernel
theorem dX6_fit_46 : decode cX6_fit 46 = .ok (.lreturn, 1) := by decide +kernel
theorem dX6_fit_47 : decode cX6_fit 47 = .ok (.iload_n 0, 1) := by decide +kernel
theorem dX6_fit_48 : decode cX6_fit 48 = .ok (.iconst 4, 1) := by decide +kernel
theorem dX6_fit_49 : decode cX6_fit 49 = .ok (.if_icmp .ne 7, 3) := by decide +kernel
theorem dX6_fit_52 : decode cX6_fit 52 = .ok (.lload_n 1, 1) := by decide +kernel
theorem dX6_fit_53 : decode cX6_fit 53 = .ok (.l2i, 1) := by decide +kernel
theorem dX6_fit_54 : decode cX6_fit 54 = .ok (.i2l, 1) := by decide +kernel
theorem dX6_fit_55 : decode cX6_fit 55 = .ok (.lreturn, 1) := by decide +kernel
theorem dX6_fit_56 : decode cX6_fit 56 = .ok (.iload_n 0, 1) := by decide +kernel
theorem dX6_fit_57 : decode cX6_fit 57 = .ok (.bipush 6, 2) := by decide +kernel
theorem dX6_fit_59 : decode cX6_fit 59 = .ok (.if_icmp .ne 7, 3) := by decide +kernel
theorem dX6_fit_62 : decode cX6_fit 62 = .ok (.lload_n 1, 1) := by decide +kernel
theorem dX6_fit_63 : decode cX6_fit 63 = .ok (.l2f, 1) := by decide +kernel
theorem dX6_fit_64 : decode cX6_fit 64 = .ok (.f2l, 1) := by decide +kernel
theorem dX6_fit_65 : decode cX6_fit 65 = .ok (.lreturn, 1) := by decide +kernel
theorem dX6_fit_66 : decode cX6_fit 66 = .ok (.iload_n 0, 1) := by decide +kernel
theorem dX6_fit_67 : decode cX6_fit 67 = .ok (.bipush 7, 2) := by decide +kernel
theorem dX6_fit_69 : decode cX6_fit 69 = .ok (.if_icmp .ne 7, 3) := by decide +kernel
theorem dX6_fit_72 : decode cX6_fit 72 = .ok (.lload_n 1, 1) := by decide +kernel
theorem dX6_fit_73 : decode cX6_fit 73 = .ok (.l2d, 1) := by decide +kernel
theorem dX6_fit_74 : decode cX6_fit 74 = .ok (.d2l, 1) := by decide +kernel
theorem dX6_fit_75 : decode cX6_fit 75 = .ok (.lreturn, 1) := by decide +kernel
theorem dX6_fit_76 : decode cX6_fit 76 = .ok (.lload_n 1, 1) := by decide +kernel
theorem dX6_fit_77 : decode cX6_fit 77 = .ok (.lreturn, 1) := by decide +kernel
theorem dX6_here_0 : decode cX6_here 0 = .ok (.aload_n 0, 1) := by decide +kernel
theorem dX6_here_1 : decode cX6_here 1 = .ok (.getfield 28, 3) := by decide +kernel
theorem dX6_here_4 : decode cX6_here 4 = .ok (.bipush 24, 2) := by decide +kernel
theorem dX6_here_6 : decode cX6_here 6 = .ok (.aload_n 0, 1) := by decide +kernel
theorem dX6_here_7 : decode cX6_here 7 = .ok (.getfield 71, 3) := by decide +kernel
theorem dX6_here_10 : decode cX6_here 10 = .ok (.imul, 1) := by decide +kernel
theorem dX6_here_11 : decode cX6_here 11 = .ok (.aload_n 0, 1) := by decide +kernel
theorem dX6_here_12 : decode cX6_here 12 = .ok (.getfield 68, 3) := by decide +kernel
theorem dX6_here_15 : decode cX6_here 15 = .ok (.iadd, 1) := by decide +kernel
theorem dX6_here_16 : decode cX6_here 16 = .ok (.laload, 1) := by decide +kernel
theorem dX6_here_17 : decode cX6_here 17 = .ok (.lreturn, 1) := by decide +kernel
theorem dX6_set_0 : decode cX6_set 0 = .ok (.aload_n 0, 1) := by decide +kernel
theorem dX6_set_1 : decode cX6_set 1 = .ok (.getfield 28, 3) := by decide +kernel
theorem dX6_set_4 : decode cX6_set 4 = .ok (.bipush 24, 2) := by decide +kernel
theorem dX6_set_6 : decode cX6_set 6 = .ok (.aload_n 0, 1) := by decide +kernel
theorem dX6_set_7 : decode cX6_set 7 = .ok (.getfield 71, 3) := by decide +kernel
theorem dX6_set_10 : decode cX6_set 10 = .ok (.imul, 1) := by decide +kernel
theorem dX6_set_11 : decode cX6_set 11 = .ok (.aload_n 0, 1) := by decide +kernel
theorem dX6_set_12 : decode cX6_set 12 = .ok (.getfield 68, 3) := by decide +kernel
theorem dX6_set_15 : decode cX6_set 15 = .ok (.iadd, 1) := by decide +kernel
theorem dX6_set_16 : decode cX6_set 16 = .ok (.aload_n 0, 1) := by decide +kernel
theorem dX6_set_17 : decode cX6_set 17 = .ok (.getfield 13, 3) := by decide +kernel
theorem dX6_set_20 : decode cX6_set 20 = .ok (.aload_n 0, 1) := by decide +kernel
theorem dX6_set_21 : decode cX6_set 21 = .ok (.getfield 71, 3) := by decide +kernel
theorem dX6_set_24 : decode cX6_set 24 = .ok (.iaload, 1) := by decide +kernel
theorem dX6_set_25 : decode cX6_set 25 = .ok (.lload_n 1, 1) := by decide +kernel
theorem dX6_set_26 : decode cX6_set 26 = .ok (.invokestatic 76, 3) := by decide +kernel
theorem dX6_set_29 : decode cX6_set 29 = .ok (.lastore, 1) := by decide +kernel
theorem dX6_set_30 : decode cX6_set 30 = .ok (.aload_n 0, 1) := by decide +kernel
theorem dX6_set_31 : decode cX6_set 31 = .ok (.invokevirtual 80, 3) := by decide +kernel
theorem dX6_set_34 : decode cX6_set 34 = .ok (.lreturn, 1) := by decide +kernel
theorem dX6_reach_0 : decode cX6_reach 0 = .ok (.aload_n 0, 1) := by decide +kernel
theorem dX6_reach_1 : decode cX6_reach 1 = .ok (.getfield 7, 3) := by decide +kernel
theorem dX6_reach_4 : decode cX6_reach 4 = .ok (.iload_n 1, 1) := by decide +kernel
theorem dX6_reach_5 : decode cX6_reach 5 = .ok (.iaload, 1) := by decide +kernel
theorem dX6_reach_6 : decode cX6_reach 6 = .ok (.istore 4, 2) := by decide +kernel
theorem dX6_reach_8 : decode cX6_reach 8 = .ok (.aload_n 0, 1) := by decide +kernel
theorem dX6_reach_9 : decode cX6_reach 9 = .ok (.iload 4, 2) := by decide +kernel
theorem dX6_reach_11 : decode cX6_reach 11 = .ok (.ifCond .lt 7, 3) := by decide +kernel
theorem dX6_reach_14 : decode cX6_reach 14 = .ok (.iconst 1, 1) := by decide +kernel
theorem dX6_reach_15 : decode cX6_reach 15 = .ok (.goto 4, 3) := by decide +kernel
theorem dX6_reach_18 : decode cX6_reach 18 = .ok (.iconst 0, 1) := by decide +kernel
theorem dX6_reach_19 : decode cX6_reach 19 = .ok (.iconst 2, 1) := by decide +kernel
theorem dX6_reach_20 : decode cX6_reach 20 = .ok (.invokevirtual 44, 3) := by decide +kernel
theorem dX6_reach_23 : decode cX6_reach 23 = .ok (.ifCond .eq 26, 3) := by decide +kernel
theorem dX6_reach_26 : decode cX6_reach 26 = .ok (.aload_n 0, 1) := by decide +kernel
theorem dX6_reach_27 : decode cX6_reach 27 = .ok (.aload_n 0, 1) := by decide +kernel
theorem dX6_reach_28 : decode cX6_reach 28 = .ok (.iload 4, 2) := by decide +kernel
theorem dX6_reach_30 : decode cX6_reach 30 = .ok (.invokevirtual 84, 3) := by decide +kernel
theorem dX6_reach_33 : decode cX6_reach 33 = .ok (.iload_n 3, 1) := by decide +kernel
theorem dX6_reach_34 : decode cX6_reach 34 = .ok (.if_icmp .gt 7, 3) := by decide +kernel
theorem dX6_reach_37 : decode cX6_reach 37 = .ok (.iconst 1, 1) := by decide +kernel
theorem dX6_reach_38 : decode cX6_reach 38 = .ok (.goto 4, 3) := by decide +kernel
theorem dX6_reach_41 : decode cX6_reach 41 = .ok (.iconst 0, 1) := by decide +kernel
theorem dX6_reach_42 : decode cX6_reach 42 = .ok (.iconst 3, 1) := by decide +kernel
theorem dX6_reach_43 : decode cX6_reach 43 = .ok (.invokevirtual 44, 3) := by decide +kernel
theorem dX6_reach_46 : decode cX6_reach 46 = .ok (.ifCond .ne 5, 3) := by decide +kernel
theorem dX6_reach_49 : decode cX6_reach 49 = .ok (.iconst 0, 1) := by decide +kernel
theorem dX6_reach_50 : decode cX6_reach 50 = .ok (.ireturn, 1) := by decide +kernel
theorem dX6_reach_51 : decode cX6_reach 51 = .ok (.aload_n 0, 1) := by decide +kernel
theorem dX6_reach_52 : decode cX6_reach 52 = .ok (.aload_n 0, 1) := by decide +kernel
theorem dX6_reach_53 : decode cX6_reach 53 = .ok (.iload 4, 2) := by decide +kernel
theorem dX6_reach_55 : decode cX6_reach 55 = .ok (.iload_n 2, 1) := by decide +kernel
theorem dX6_reach_56 : decode cX6_reach 56 = .ok (.invokevirtual 87, 3) := by decide +kernel
theorem dX6_reach_59 : decode cX6_reach 59 = .ok (.putfield 36, 3) := by decide +kernel
theorem dX6_reach_62 : decode cX6_reach 62 = .ok (.aload_n 0, 1) := by decide +kernel
theorem dX6_reach_63 : decode cX6_reach 63 = .ok (.getfield 36, 3) := by decide +kernel
theorem dX6_reach_66 : decode cX6_reach 66 = .ok (.ifCond .ne 7, 3) := by decide +kernel
theorem dX6_reach_69 : decode cX6_reach 69 = .ok (.iconst 1, 1) := by decide +kernel
theorem dX6_reach_70 : decode cX6_reach 70 = .ok (.goto 4, 3) := by decide +kernel
theorem dX6_reach_73 : decode cX6_reach 73 = .ok (.iconst 0, 1) := by decide +kernel
theorem dX6_reach_74 : decode cX6_reach 74 = .ok (.ireturn, 1) := by decide +kernel
theorem dX6_take_0 : decode cX6_take 0 = .ok (.aload_n 0, 1) := by decide +kernel
