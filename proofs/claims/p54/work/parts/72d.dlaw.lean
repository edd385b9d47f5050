/-! decode rows of the law's methods (as printed) -/
theorem dL_areLists_0 : decode cL_areLists 0 = .ok (.aload_n 0, 1) := by decide +kernel
theorem dL_areLists_1 : decode cL_areLists 1 = .ok (.bipush 12, 2) := by decide +kernel
theorem dL_areLists_3 : decode cL_areLists 3 = .ok (.aload_n 1, 1) := by decide +kernel
theorem dL_areLists_4 : decode cL_areLists 4 = .ok (.iconst 3, 1) := by decide +kernel
theorem dL_areLists_5 : decode cL_areLists 5 = .ok (.iaload, 1) := by decide +kernel
theorem dL_areLists_6 : decode cL_areLists 6 = .ok (.iconst 0, 1) := by decide +kernel
theorem dL_areLists_7 : decode cL_areLists 7 = .ok (.invokestatic 211, 3) := by decide +kernel
theorem dL_areLists_10 : decode cL_areLists 10 = .ok (.sipush (-2005), 3) := by decide +kernel
theorem dL_areLists_13 : decode cL_areLists 13 = .ok (.if_icmp .ne 23, 3) := by decide +kernel
theorem dL_areLists_16 : decode cL_areLists 16 = .ok (.aload_n 0, 1) := by decide +kernel
theorem dL_areLists_17 : decode cL_areLists 17 = .ok (.bipush 16, 2) := by decide +kernel
theorem dL_areLists_19 : decode cL_areLists 19 = .ok (.aload_n 1, 1) := by decide +kernel
theorem dL_areLists_20 : decode cL_areLists 20 = .ok (.iconst 3, 1) := by decide +kernel
theorem dL_areLists_21 : decode cL_areLists 21 = .ok (.iaload, 1) := by decide +kernel
theorem dL_areLists_22 : decode cL_areLists 22 = .ok (.iconst 0, 1) := by decide +kernel
theorem dL_areLists_23 : decode cL_areLists 23 = .ok (.invokestatic 211, 3) := by decide +kernel
theorem dL_areLists_26 : decode cL_areLists 26 = .ok (.sipush (-2005), 3) := by decide +kernel
theorem dL_areLists_29 : decode cL_areLists 29 = .ok (.if_icmp .ne 7, 3) := by decide +kernel
theorem dL_areLists_32 : decode cL_areLists 32 = .ok (.iconst 1, 1) := by decide +kernel
theorem dL_areLists_33 : decode cL_areLists 33 = .ok (.goto 4, 3) := by decide +kernel
theorem dL_areLists_36 : decode cL_areLists 36 = .ok (.iconst 0, 1) := by decide +kernel
theorem dL_areLists_37 : decode cL_areLists 37 = .ok (.istore_n 2, 1) := by decide +kernel
theorem dL_areLists_38 : decode cL_areLists 38 = .ok (.iconst 0, 1) := by decide +kernel
theorem dL_areLists_39 : decode cL_areLists 39 = .ok (.istore_n 3, 1) := by decide +kernel
theorem dL_areLists_40 : decode cL_areLists 40 = .ok (.iconst 0, 1) := by decide +kernel
theorem dL_areLists_41 : decode cL_areLists 41 = .ok (.istore 4, 2) := by decide +kernel
theorem dL_areLists_43 : decode cL_areLists 43 = .ok (.iload 4, 2) := by decide +kernel
theorem dL_areLists_45 : decode cL_areLists 45 = .ok (.aload_n 1, 1) := by decide +kernel
theorem dL_areLists_46 : decode cL_areLists 46 = .ok (.iconst 3, 1) := by decide +kernel
theorem dL_areLists_47 : decode cL_areLists 47 = .ok (.iaload, 1) := by decide +kernel
theorem dL_areLists_48 : decode cL_areLists 48 = .ok (.if_icmp .ge 42, 3) := by decide +kernel
theorem dL_areLists_51 : decode cL_areLists 51 = .ok (.iload_n 2, 1) := by decide +kernel
theorem dL_areLists_52 : decode cL_areLists 52 = .ok (.ifCond .eq 38, 3) := by decide +kernel
theorem dL_areLists_55 : decode cL_areLists 55 = .ok (.aload_n 0, 1) := by decide +kernel
theorem dL_areLists_56 : decode cL_areLists 56 = .ok (.aload_n 1, 1) := by decide +kernel
theorem dL_areLists_57 : decode cL_areLists 57 = .ok (.iload 4, 2) := by decide +kernel
theorem dL_areLists_59 : decode cL_areLists 59 = .ok (.invokestatic 230, 3) := by decide +kernel
theorem dL_areLists_62 : decode cL_areLists 62 = .ok (.ifCond .eq 20, 3) := by decide +kernel
theorem dL_areLists_65 : decode cL_areLists 65 = .ok (.aload_n 0, 1) := by decide +kernel
theorem dL_areLists_66 : decode cL_areLists 66 = .ok (.bipush 19, 2) := by decide +kernel
theorem dL_areLists_68 : decode cL_areLists 68 = .ok (.iload 4, 2) := by decide +kernel
theorem dL_areLists_70 : decode cL_areLists 70 = .ok (.iload 4, 2) := by decide +kernel
theorem dL_areLists_72 : decode cL_areLists 72 = .ok (.invokestatic 211, 3) := by decide +kernel
theorem dL_areLists_75 : decode cL_areLists 75 = .ok (.ifCond .ne 7, 3) := by decide +kernel
theorem dL_areLists_78 : decode cL_areLists 78 = .ok (.iconst 1, 1) := by decide +kernel
theorem dL_areLists_79 : decode cL_areLists 79 = .ok (.goto 4, 3) := by decide +kernel
theorem dL_areLists_82 : decode cL_areLists 82 = .ok (.iconst 0, 1) := by decide +kernel
theorem dL_areLists_83 : decode cL_areLists 83 = .ok (.istore_n 2, 1) := by decide +kernel
theorem dL_areLists_84 : decode cL_areLists 84 = .ok (.iinc 4 1, 3) := by decide +kernel
theorem dL_areLists_87 : decode cL_areLists 87 = .ok (.goto (-44), 3) := by decide +kernel
theorem dL_areLists_90 : decode cL_areLists 90 = .ok (.iconst 0, 1) := by decide +kernel
theorem dL_areLists_91 : decode cL_areLists 91 = .ok (.istore 4, 2) := by decide +kernel
theorem dL_areLists_93 : decode cL_areLists 93 = .ok (.iload 4, 2) := by decide +kernel
theorem dL_areLists_95 : decode cL_areLists 95 = .ok (.aload_n 1, 1) := by decide +kernel
theorem dL_areLists_96 : decode cL_areLists 96 = .ok (.iconst 0, 1) := by decide +kernel
theorem dL_areLists_97 : decode cL_areLists 97 = .ok (.iaload, 1) := by decide +kernel
theorem dL_areLists_98 : decode cL_areLists 98 = .ok (.if_icmp .ge 68, 3) := by decide +kernel
theorem dL_areLists_101 : decode cL_areLists 101 = .ok (.iconst 0, 1) := by decide +kernel
theorem dL_areLists_102 : decode cL_areLists 102 = .ok (.istore 5, 2) := by decide +kernel
theorem dL_areLists_104 : decode cL_areLists 104 = .ok (.iconst 0, 1) := by decide +kernel
theorem dL_areLists_105 : decode cL_areLists 105 = .ok (.istore 6, 2) := by decide +kernel
theorem dL_areLists_107 : decode cL_areLists 107 = .ok (.iload 6, 2) := by decide +kernel
theorem dL_areLists_109 : decode cL_areLists 109 = .ok (.aload_n 1, 1) := by decide +kernel
theorem dL_areLists_110 : decode cL_areLists 110 = .ok (.iconst 3, 1) := by decide +kernel
theorem dL_areLists_111 : decode cL_areLists 111 = .ok (.iaload, 1) := by decide +kernel
theorem dL_areLists_112 : decode cL_areLists 112 = .ok (.if_icmp .ge 35, 3) := by decide +kernel
theorem dL_areLists_115 : decode cL_areLists 115 = .ok (.iload 5, 2) := by decide +kernel
theorem dL_areLists_117 : decode cL_areLists 117 = .ok (.ifCond .ne 17, 3) := by decide +kernel
theorem dL_areLists_120 : decode cL_areLists 120 = .ok (.aload_n 0, 1) := by decide +kernel
theorem dL_areLists_121 : decode cL_areLists 121 = .ok (.bipush 15, 2) := by decide +kernel
theorem dL_areLists_123 : decode cL_areLists 123 = .ok (.iload 6, 2) := by decide +kernel
theorem dL_areLists_125 : decode cL_areLists 125 = .ok (.iload 4, 2) := by decide +kernel
theorem dL_areLists_127 : decode cL_areLists 127 = .ok (.invokestatic 211, 3) := by decide +kernel
theorem dL_areLists_130 : decode cL_areLists 130 = .ok (.iconst 1, 1) := by decide +kernel
theorem dL_areLists_131 : decode cL_areLists 131 = .ok (.if_icmp .ne 7, 3) := by decide +kernel
theorem dL_areLists_134 : decode cL_areLists 134 = .ok (.iconst 1, 1) := by decide +kernel
theorem dL_areLists_135 : decode cL_areLists 135 = .ok (.goto 4, 3) := by decide +kernel
theorem dL_areLists_138 : decode cL_areLists 138 = .ok (.iconst 0, 1) := by decide +kernel
theorem dL_areLists_139 : decode cL_areLists 139 = .ok (.istore 5, 2) := by decide +kernel
theorem dL_areLists_141 : decode cL_areLists 141 = .ok (.iinc 6 1, 3) := by decide +kernel
theorem dL_areLists_144 : decode cL_areLists 144 = .ok (.goto (-37), 3) := by decide +kernel
theorem dL_areLists_147 : decode cL_areLists 147 = .ok (.iload_n 3, 1) := by decide +kernel
theorem dL_areLists_148 : decode cL_areLists 148 = .ok (.iload 5, 2) := by decide +kernel
theorem dL_areLists_150 : decode cL_areLists 150 = .ok (.ifCond .eq 7, 3) := by decide +kernel
theorem dL_areLists_153 : decode cL_areLists 153 = .ok (.iconst 1, 1) := by decide +kernel
theorem dL_areLists_154 : decode cL_areLists 154 = .ok (.goto 4, 3) := by decide +kernel
theorem dL_areLists_157 : decode cL_areLists 157 = .ok (.iconst 0, 1) := by decide +kernel
theorem dL_areLists_158 : decode cL_areLists 158 = .ok (.iadd, 1) := by decide +kernel
theorem dL_areLists_159 : decode cL_areLists 159 = .ok (.istore_n 3, 1) := by decide +kernel
theorem dL_areLists_160 : decode cL_areLists 160 = .ok (.iinc 4 1, 3) := by decide +kernel
theorem dL_areLists_163 : decode cL_areLists 163 = .ok (.goto (-70), 3) := by decide +kernel
theorem dL_areLists_166 : decode cL_areLists 166 = .ok (.iload_n 2, 1) := by decide +kernel
theorem dL_areLists_167 : decode cL_areLists 167 = .ok (.ifCond .eq 30, 3) := by decide +kernel
theorem dL_areLists_170 : decode cL_areLists 170 = .ok (.aload_n 0, 1) := by decide +kernel
theorem dL_areLists_171 : decode cL_areLists 171 = .ok (.invokevirtual 234, 3) := by decide +kernel
theorem dL_areLists_174 : decode cL_areLists 174 = .ok (.ifCond .eq 19, 3) := by decide +kernel
theorem dL_areLists_177 : decode cL_areLists 177 = .ok (.aload_n 0, 1) := by decide +kernel
theorem dL_areLists_178 : decode cL_areLists 178 = .ok (.invokevirtual 237, 3) := by decide +kernel
theorem dL_areLists_181 : decode cL_areLists 181 = .ok (.iload_n 3, 1) := by decide +kernel
theorem dL_areLists_182 : decode cL_areLists 182 = .ok (.i2f, 1) := by decide +kernel
theorem dL_areLists_183 : decode cL_areLists 183 = .ok (.aload_n 0, 1) := by decide +kernel
theorem dL_areLists_184 : decode cL_areLists 184 = .ok (.invokevirtual 234, 3) := by decide +kernel
theorem dL_areLists_187 : decode cL_areLists 187 = .ok (.i2f, 1) := by decide +kernel
theorem dL_areLists_188 : decode cL_areLists 188 = .ok (.fdiv, 1) := by decide +kernel
theorem dL_areLists_189 : decode cL_areLists 189 = .ok (.fcmp .l, 1) := by decide +kernel
theorem dL_areLists_190 : decode cL_areLists 190 = .ok (.ifCond .ne 7, 3) := by decide +kernel
theorem dL_areLists_193 : decode cL_areLists 193 = .ok (.iconst 1, 1) := by decide +kernel
theorem dL_areLists_194 : decode cL_areLists 194 = .ok (.goto 4, 3) := by decide +kernel
theorem dL_areLists_197 : decode cL_areLists 197 = .ok (.iconst 0, 1) := by decide +kernel
theorem dL_areLists_198 : decode cL_areLists 198 = .ok (.ireturn, 1) := by decide +kernel
theorem dL_law_0 : decode cL_law 0 = .ok (.new 16, 3) := by decide +kernel
theorem dL_law_3 : decode cL_law 3 = .ok (.dup, 1) := by decide +kernel
theorem dL_law_4 : decode cL_law 4 = .ok (.invokespecial 241, 3) := by decide +kernel
theorem dL_law_7 : decode cL_law 7 = .ok (.astore_n 1, 1) := by decide +kernel
theorem dL_law_8 : decode cL_law 8 = .ok (.sipush 170, 3) := by decide +kernel
theorem dL_law_11 : decode cL_law 11 = .ok (.newarray .int, 2) := by decide +kernel
theorem dL_law_13 : decode cL_law 13 = .ok (.astore_n 2, 1) := by decide +kernel
theorem dL_law_14 : decode cL_law 14 = .ok (.aload_n 1, 1) := by decide +kernel
theorem dL_law_15 : decode cL_law 15 = .ok (.aload_n 2, 1) := by decide +kernel
theorem dL_law_16 : decode cL_law 16 = .ok (.invokestatic 242, 3) := by decide +kernel
theorem dL_law_19 : decode cL_law 19 = .ok (.ifCond .eq 15, 3) := by decide +kernel
theorem dL_law_22 : decode cL_law 22 = .ok (.aload_n 1, 1) := by decide +kernel
theorem dL_law_23 : decode cL_law 23 = .ok (.aload_n 2, 1) := by decide +kernel
theorem dL_law_24 : decode cL_law 24 = .ok (.invokestatic 246, 3) := by decide +kernel
theorem dL_law_27 : decode cL_law 27 = .ok (.ifCond .eq 7, 3) := by decide +kernel
theorem dL_law_30 : decode cL_law 30 = .ok (.iconst 1, 1) := by decide +kernel
theorem dL_law_31 : decode cL_law 31 = .ok (.goto 4, 3) := by decide +kernel
theorem dL_law_34 : decode cL_law 34 = .ok (.iconst 0, 1) := by decide +kernel
theorem dL_law_35 : decode cL_law 35 = .ok (.istore_n 3, 1) := by decide +kernel
theorem dL_law_36 : decode cL_law 36 = .ok (.aload_n 2, 1) := by decide +kernel
theorem dL_law_37 : decode cL_law 37 = .ok (.iconst 1, 1) := by decide +kernel
theorem dL_law_38 : decode cL_law 38 = .ok (.iconst 2, 1) := by decide +kernel
theorem dL_law_39 : decode cL_law 39 = .ok (.aload_n 0, 1) := by decide +kernel
theorem dL_law_40 : decode cL_law 40 = .ok (.iconst 0, 1) := by decide +kernel
theorem dL_law_41 : decode cL_law 41 = .ok (.iconst 4, 1) := by decide +kernel
theorem dL_law_42 : decode cL_law 42 = .ok (.invokestatic 192, 3) := by decide +kernel
theorem dL_law_45 : decode cL_law 45 = .ok (.iadd, 1) := by decide +kernel
theorem dL_law_46 : decode cL_law 46 = .ok (.iastore, 1) := by decide +kernel
theorem dL_law_47 : decode cL_law 47 = .ok (.iconst 0, 1) := by decide +kernel
theorem dL_law_48 : decode cL_law 48 = .ok (.istore 4, 2) := by decide +kernel
theorem dL_law_50 : decode cL_law 50 = .ok (.iload 4, 2) := by decide +kernel
theorem dL_law_52 : decode cL_law 52 = .ok (.aload_n 2, 1) := by decide +kernel
theorem dL_law_53 : decode cL_law 53 = .ok (.iconst 1, 1) := by decide +kernel
theorem dL_law_54 : decode cL_law 54 = .ok (.iaload, 1) := by decide +kernel
theorem dL_law_55 : decode cL_law 55 = .ok (.if_icmp .ge 32, 3) := by decide +kernel
theorem dL_law_58 : decode cL_law 58 = .ok (.iload_n 3, 1) := by decide +kernel
theorem dL_law_59 : decode cL_law 59 = .ok (.ifCond .eq 20, 3) := by decide +kernel
theorem dL_law_62 : decode cL_law 62 = .ok (.aload_n 1, 1) := by decide +kernel
theorem dL_law_63 : decode cL_law 63 = .ok (.iconst 5, 1) := by decide +kernel
theorem dL_law_64 : decode cL_law 64 = .ok (.iconst 0, 1) := by decide +kernel
theorem dL_law_65 : decode cL_law 65 = .ok (.iconst 0, 1) := by decide +kernel
theorem dL_law_66 : decode cL_law 66 = .ok (.iconst 0, 1) := by decide +kernel
theorem dL_law_67 : decode cL_law 67 = .ok (.invokestatic 184, 3) := by decide +kernel
theorem dL_law_70 : decode cL_law 70 = .ok (.iload 4, 2) := by decide +kernel
theorem dL_law_72 : decode cL_law 72 = .ok (.if_icmp .ne 7, 3) := by decide +kernel
theorem dL_law_75 : decode cL_law 75 = .ok (.iconst 1, 1) := by decide +kernel
theorem dL_law_76 : decode cL_law 76 = .ok (.goto 4, 3) := by decide +kernel
theorem dL_law_79 : decode cL_law 79 = .ok (.iconst 0, 1) := by decide +kernel
theorem dL_law_80 : decode cL_law 80 = .ok (.istore_n 3, 1) := by decide +kernel
theorem dL_law_81 : decode cL_law 81 = .ok (.iinc 4 1, 3) := by decide +kernel
theorem dL_law_84 : decode cL_law 84 = .ok (.goto (-34), 3) := by decide +kernel
theorem dL_law_87 : decode cL_law 87 = .ok (.iconst 0, 1) := by decide +kernel
theorem dL_law_88 : decode cL_law 88 = .ok (.istore 4, 2) := by decide +kernel
theorem dL_law_90 : decode cL_law 90 = .ok (.iload 4, 2) := by decide +kernel
theorem dL_law_92 : decode cL_law 92 = .ok (.iconst 2, 1) := by decide +kernel
theorem dL_law_93 : decode cL_law 93 = .ok (.aload_n 0, 1) := by decide +kernel
theorem dL_law_94 : decode cL_law 94 = .ok (.iconst 1, 1) := by decide +kernel
theorem dL_law_95 : decode cL_law 95 = .ok (.bipush 7, 2) := by decide +kernel
theorem dL_law_97 : decode cL_law 97 = .ok (.invokestatic 192, 3) := by decide +kernel
theorem dL_law_100 : decode cL_law 100 = .ok (.iadd, 1) := by decide +kernel
theorem dL_law_101 : decode cL_law 101 = .ok (.if_icmp .ge 63, 3) := by decide +kernel
theorem dL_law_104 : decode cL_law 104 = .ok (.iload_n 3, 1) := by decide +kernel
theorem dL_law_105 : decode cL_law 105 = .ok (.ifCond .eq 44, 3) := by decide +kernel
theorem dL_law_108 : decode cL_law 108 = .ok (.aload_n 1, 1) := by decide +kernel
theorem dL_law_109 : decode cL_law 109 = .ok (.iconst 0, 1) := by decide +kernel
theorem dL_law_110 : decode cL_law 110 = .ok (.iconst 1, 1) := by decide +kernel
theorem dL_law_111 : decode cL_law 111 = .ok (.aload_n 0, 1) := by decide +kernel
theorem dL_law_112 : decode cL_law 112 = .ok (.bipush 10, 2) := by decide +kernel
theorem dL_law_114 : decode cL_law 114 = .ok (.iload 4, 2) := by decide +kernel
theorem dL_law_116 : decode cL_law 116 = .ok (.iadd, 1) := by decide +kernel
theorem dL_law_117 : decode cL_law 117 = .ok (.sipush 400, 3) := by decide +kernel
theorem dL_law_120 : decode cL_law 120 = .ok (.invokestatic 192, 3) := by decide +kernel
theorem dL_law_123 : decode cL_law 123 = .ok (.iadd, 1) := by decide +kernel
theorem dL_law_124 : decode cL_law 124 = .ok (.aload_n 0, 1) := by decide +kernel
theorem dL_law_125 : decode cL_law 125 = .ok (.bipush 30, 2) := by decide +kernel
theorem dL_law_127 : decode cL_law 127 = .ok (.iload 4, 2) := by decide +kernel
theorem dL_law_129 : decode cL_law 129 = .ok (.iadd, 1) := by decide +kernel
theorem dL_law_130 : decode cL_law 130 = .ok (.bipush 6, 2) := by decide +kernel
theorem dL_law_132 : decode cL_law 132 = .ok (.invokestatic 192, 3) := by decide +kernel
theorem dL_law_135 : decode cL_law 135 = .ok (.iconst 0, 1) := by decide +kernel
theorem dL_law_136 : decode cL_law 136 = .ok (.invokestatic 184, 3) := by decide +kernel
theorem dL_law_139 : decode cL_law 139 = .ok (.aload_n 2, 1) := by decide +kernel
theorem dL_law_140 : decode cL_law 140 = .ok (.iconst 0, 1) := by decide +kernel
theorem dL_law_141 : decode cL_law 141 = .ok (.iaload, 1) := by decide +kernel
theorem dL_law_142 : decode cL_law 142 = .ok (.if_icmp .ne 7, 3) := by decide +kernel
theorem dL_law_145 : decode cL_law 145 = .ok (.iconst 1, 1) := by decide +kernel
theorem dL_law_146 : decode cL_law 146 = .ok (.goto 4, 3) := by decide +kernel
theorem dL_law_149 : decode cL_law 149 = .ok (.iconst 0, 1) := by decide +kernel
theorem dL_law_150 : decode cL_law 150 = .ok (.istore_n 3, 1) := by decide +kernel
theorem dL_law_151 : decode cL_law 151 = .ok (.aload_n 2, 1) := by decide +kernel
theorem dL_law_152 : decode cL_law 152 = .ok (.iconst 0, 1) := by decide +kernel
theorem dL_law_153 : decode cL_law 153 = .ok (.dup2, 1) := by decide +kernel
theorem dL_law_154 : decode cL_law 154 = .ok (.iaload, 1) := by decide +kernel
theorem dL_law_155 : decode cL_law 155 = .ok (.iconst 1, 1) := by decide +kernel
theorem dL_law_156 : decode cL_law 156 = .ok (.iadd, 1) := by decide +kernel
theorem dL_law_157 : decode cL_law 157 = .ok (.iastore, 1) := by decide +kernel
theorem dL_law_158 : decode cL_law 158 = .ok (.iinc 4 1, 3) := by decide +kernel
theorem dL_law_161 : decode cL_law 161 = .ok (.goto (-71), 3) := by decide +kernel
theorem dL_law_164 : decode cL_law 164 = .ok (.iconst 0, 1) := by decide +kernel
theorem dL_law_165 : decode cL_law 165 = .ok (.istore 4, 2) := by decide +kernel
theorem dL_law_167 : decode cL_law 167 = .ok (.iload 4, 2) := by decide +kernel
theorem dL_law_169 : decode cL_law 169 = .ok (.iconst 4, 1) := by decide +kernel
theorem dL_law_170 : decode cL_law 170 = .ok (.aload_n 0, 1) := by decide +kernel
theorem dL_law_171 : decode cL_law 171 = .ok (.iconst 2, 1) := by decide +kernel
theorem dL_law_172 : decode cL_law 172 = .ok (.bipush 6, 2) := by decide +kernel
theorem dL_law_174 : decode cL_law 174 = .ok (.invokestatic 192, 3) := by decide +kernel
theorem dL_law_177 : decode cL_law 177 = .ok (.iadd, 1) := by decide +kernel
theorem dL_law_178 : decode cL_law 178 = .ok (.if_icmp .ge 27, 3) := by decide +kernel
theorem dL_law_181 : decode cL_law 181 = .ok (.iload_n 3, 1) := by decide +kernel
theorem dL_law_182 : decode cL_law 182 = .ok (.ifCond .eq 23, 3) := by decide +kernel
theorem dL_law_185 : decode cL_law 185 = .ok (.aload_n 1, 1) := by decide +kernel
theorem dL_law_186 : decode cL_law 186 = .ok (.aload_n 2, 1) := by decide +kernel
theorem dL_law_187 : decode cL_law 187 = .ok (.aload_n 0, 1) := by decide +kernel
theorem dL_law_188 : decode cL_law 188 = .ok (.bipush 50, 2) := by decide +kernel
theorem dL_law_190 : decode cL_law 190 = .ok (.iconst 5, 1) := by decide +kernel
theorem dL_law_191 : decode cL_law 191 = .ok (.iload 4, 2) := by decide +kernel
theorem dL_law_193 : decode cL_law 193 = .ok (.imul, 1) := by decide +kernel
theorem dL_law_194 : decode cL_law 194 = .ok (.iadd, 1) := by decide +kernel
theorem dL_law_195 : decode cL_law 195 = .ok (.invokestatic 204, 3) := by decide +kernel
theorem dL_law_198 : decode cL_law 198 = .ok (.istore_n 3, 1) := by decide +kernel
theorem dL_law_199 : decode cL_law 199 = .ok (.iinc 4 1, 3) := by decide +kernel
theorem dL_law_202 : decode cL_law 202 = .ok (.goto (-35), 3) := by decide +kernel
theorem dL_law_205 : decode cL_law 205 = .ok (.iconst 0, 1) := by decide +kernel
theorem dL_law_206 : decode cL_law 206 = .ok (.istore 4, 2) := by decide +kernel
theorem dL_law_208 : decode cL_law 208 = .ok (.iload 4, 2) := by decide +kernel
theorem dL_law_210 : decode cL_law 210 = .ok (.bipush 40, 2) := by decide +kernel
theorem dL_law_212 : decode cL_law 212 = .ok (.if_icmp .ge 63, 3) := by decide +kernel
theorem dL_law_215 : decode cL_law 215 = .ok (.iload_n 3, 1) := by decide +kernel
theorem dL_law_216 : decode cL_law 216 = .ok (.ifCond .eq 59, 3) := by decide +kernel
theorem dL_law_219 : decode cL_law 219 = .ok (.aload_n 1, 1) := by decide +kernel
theorem dL_law_220 : decode cL_law 220 = .ok (.aload_n 2, 1) := by decide +kernel
theorem dL_law_221 : decode cL_law 221 = .ok (.aload_n 0, 1) := by decide +kernel
theorem dL_law_222 : decode cL_law 222 = .ok (.sipush 200, 3) := by decide +kernel
theorem dL_law_225 : decode cL_law 225 = .ok (.bipush 12, 2) := by decide +kernel
theorem dL_law_227 : decode cL_law 227 = .ok (.iload 4, 2) := by decide +kernel
theorem dL_law_229 : decode cL_law 229 = .ok (.imul, 1) := by decide +kernel
theorem dL_law_230 : decode cL_law 230 = .ok (.iadd, 1) := by decide +kernel
theorem dL_law_231 : decode cL_law 231 = .ok (.invokestatic 249, 3) := by decide +kernel
theorem dL_law_234 : decode cL_law 234 = .ok (.ifCond .eq 33, 3) := by decide +kernel
theorem dL_law_237 : decode cL_law 237 = .ok (.iload 4, 2) := by decide +kernel
theorem dL_law_239 : decode cL_law 239 = .ok (.bipush 10, 2) := by decide +kernel
theorem dL_law_241 : decode cL_law 241 = .ok (.irem, 1) := by decide +kernel
theorem dL_law_242 : decode cL_law 242 = .ok (.bipush 9, 2) := by decide +kernel
theorem dL_law_244 : decode cL_law 244 = .ok (.if_icmp .ne 19, 3) := by decide +kernel
theorem dL_law_247 : decode cL_law 247 = .ok (.aload_n 1, 1) := by decide +kernel
theorem dL_law_248 : decode cL_law 248 = .ok (.aload_n 2, 1) := by decide +kernel
theorem dL_law_249 : decode cL_law 249 = .ok (.invokestatic 242, 3) := by decide +kernel
theorem dL_law_252 : decode cL_law 252 = .ok (.ifCond .eq 15, 3) := by decide +kernel
theorem dL_law_255 : decode cL_law 255 = .ok (.aload_n 1, 1) := by decide +kernel
theorem dL_law_256 : decode cL_law 256 = .ok (.aload_n 2, 1) := by decide +kernel
theorem dL_law_257 : decode cL_law 257 = .ok (.invokestatic 246, 3) := by decide +kernel
theorem dL_law_260 : decode cL_law 260 = .ok (.ifCond .eq 7, 3) := by decide +kernel
theorem dL_law_263 : decode cL_law 263 = .ok (.iconst 1, 1) := by decide +kernel
theorem dL_law_264 : decode cL_law 264 = .ok (.goto 4, 3) := by decide +kernel
theorem dL_law_267 : decode cL_law 267 = .ok (.iconst 0, 1) := by decide +kernel
theorem dL_law_268 : decode cL_law 268 = .ok (.istore_n 3, 1) := by decide +kernel
theorem dL_law_269 : decode cL_law 269 = .ok (.iinc 4 1, 3) := by decide +kernel
theorem dL_law_272 : decode cL_law 272 = .ok (.goto (-64), 3) := by decide +kernel
theorem dL_law_275 : decode cL_law 275 = .ok (.iload_n 3, 1) := by decide +kernel
theorem dL_law_276 : decode cL_law 276 = .ok (.ireturn, 1) := by decide +kernel
