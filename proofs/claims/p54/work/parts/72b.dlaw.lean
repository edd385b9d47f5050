/-! decode rows of the law's methods (as printed) -/
theorem dL_holds_0 : decode cL_holds 0 = .ok (.aload_n 1, 1) := by decide +kernel
theorem dL_holds_1 : decode cL_holds 1 = .ok (.bipush 11, 2) := by decide +kernel
theorem dL_holds_3 : decode cL_holds 3 = .ok (.iconst 3, 1) := by decide +kernel
theorem dL_holds_4 : decode cL_holds 4 = .ok (.iload_n 2, 1) := by decide +kernel
theorem dL_holds_5 : decode cL_holds 5 = .ok (.imul, 1) := by decide +kernel
theorem dL_holds_6 : decode cL_holds 6 = .ok (.iadd, 1) := by decide +kernel
theorem dL_holds_7 : decode cL_holds 7 = .ok (.iaload, 1) := by decide +kernel
theorem dL_holds_8 : decode cL_holds 8 = .ok (.istore 4, 2) := by decide +kernel
theorem dL_holds_10 : decode cL_holds 10 = .ok (.aload_n 1, 1) := by decide +kernel
theorem dL_holds_11 : decode cL_holds 11 = .ok (.bipush 12, 2) := by decide +kernel
theorem dL_holds_13 : decode cL_holds 13 = .ok (.iconst 3, 1) := by decide +kernel
theorem dL_holds_14 : decode cL_holds 14 = .ok (.iload_n 2, 1) := by decide +kernel
theorem dL_holds_15 : decode cL_holds 15 = .ok (.imul, 1) := by decide +kernel
theorem dL_holds_16 : decode cL_holds 16 = .ok (.iadd, 1) := by decide +kernel
theorem dL_holds_17 : decode cL_holds 17 = .ok (.iaload, 1) := by decide +kernel
theorem dL_holds_18 : decode cL_holds 18 = .ok (.istore 5, 2) := by decide +kernel
theorem dL_holds_20 : decode cL_holds 20 = .ok (.aload_n 1, 1) := by decide +kernel
theorem dL_holds_21 : decode cL_holds 21 = .ok (.bipush 10, 2) := by decide +kernel
theorem dL_holds_23 : decode cL_holds 23 = .ok (.iconst 3, 1) := by decide +kernel
theorem dL_holds_24 : decode cL_holds 24 = .ok (.iload_n 2, 1) := by decide +kernel
theorem dL_holds_25 : decode cL_holds 25 = .ok (.imul, 1) := by decide +kernel
theorem dL_holds_26 : decode cL_holds 26 = .ok (.iadd, 1) := by decide +kernel
theorem dL_holds_27 : decode cL_holds 27 = .ok (.iaload, 1) := by decide +kernel
theorem dL_holds_28 : decode cL_holds 28 = .ok (.tableswitch 240 0 7 #[48, 70, 88, 106, 124, 157, 176, 208], 48) := by decide +kernel
theorem dL_holds_76 : decode cL_holds 76 = .ok (.aload_n 0, 1) := by decide +kernel
theorem dL_holds_77 : decode cL_holds 77 = .ok (.iconst 4, 1) := by decide +kernel
theorem dL_holds_78 : decode cL_holds 78 = .ok (.iload_n 3, 1) := by decide +kernel
theorem dL_holds_79 : decode cL_holds 79 = .ok (.iconst 0, 1) := by decide +kernel
theorem dL_holds_80 : decode cL_holds 80 = .ok (.invokestatic 211, 3) := by decide +kernel
theorem dL_holds_83 : decode cL_holds 83 = .ok (.iload 4, 2) := by decide +kernel
theorem dL_holds_85 : decode cL_holds 85 = .ok (.ishr, 1) := by decide +kernel
theorem dL_holds_86 : decode cL_holds 86 = .ok (.iconst 1, 1) := by decide +kernel
theorem dL_holds_87 : decode cL_holds 87 = .ok (.iand, 1) := by decide +kernel
theorem dL_holds_88 : decode cL_holds 88 = .ok (.iconst 1, 1) := by decide +kernel
theorem dL_holds_89 : decode cL_holds 89 = .ok (.if_icmp .ne 7, 3) := by decide +kernel
theorem dL_holds_92 : decode cL_holds 92 = .ok (.iconst 1, 1) := by decide +kernel
theorem dL_holds_93 : decode cL_holds 93 = .ok (.goto 4, 3) := by decide +kernel
theorem dL_holds_96 : decode cL_holds 96 = .ok (.iconst 0, 1) := by decide +kernel
theorem dL_holds_97 : decode cL_holds 97 = .ok (.ireturn, 1) := by decide +kernel
theorem dL_holds_98 : decode cL_holds 98 = .ok (.aload_n 0, 1) := by decide +kernel
theorem dL_holds_99 : decode cL_holds 99 = .ok (.iconst 1, 1) := by decide +kernel
theorem dL_holds_100 : decode cL_holds 100 = .ok (.iload_n 3, 1) := by decide +kernel
theorem dL_holds_101 : decode cL_holds 101 = .ok (.iconst 0, 1) := by decide +kernel
theorem dL_holds_102 : decode cL_holds 102 = .ok (.invokestatic 211, 3) := by decide +kernel
theorem dL_holds_105 : decode cL_holds 105 = .ok (.iload 4, 2) := by decide +kernel
theorem dL_holds_107 : decode cL_holds 107 = .ok (.if_icmp .lt 7, 3) := by decide +kernel
theorem dL_holds_110 : decode cL_holds 110 = .ok (.iconst 1, 1) := by decide +kernel
theorem dL_holds_111 : decode cL_holds 111 = .ok (.goto 4, 3) := by decide +kernel
theorem dL_holds_114 : decode cL_holds 114 = .ok (.iconst 0, 1) := by decide +kernel
theorem dL_holds_115 : decode cL_holds 115 = .ok (.ireturn, 1) := by decide +kernel
theorem dL_holds_116 : decode cL_holds 116 = .ok (.aload_n 0, 1) := by decide +kernel
theorem dL_holds_117 : decode cL_holds 117 = .ok (.iconst 2, 1) := by decide +kernel
theorem dL_holds_118 : decode cL_holds 118 = .ok (.iload_n 3, 1) := by decide +kernel
theorem dL_holds_119 : decode cL_holds 119 = .ok (.iconst 0, 1) := by decide +kernel
theorem dL_holds_120 : decode cL_holds 120 = .ok (.invokestatic 211, 3) := by decide +kernel
theorem dL_holds_123 : decode cL_holds 123 = .ok (.iload 4, 2) := by decide +kernel
theorem dL_holds_125 : decode cL_holds 125 = .ok (.if_icmp .gt 7, 3) := by decide +kernel
theorem dL_holds_128 : decode cL_holds 128 = .ok (.iconst 1, 1) := by decide +kernel
theorem dL_holds_129 : decode cL_holds 129 = .ok (.goto 4, 3) := by decide +kernel
theorem dL_holds_132 : decode cL_holds 132 = .ok (.iconst 0, 1) := by decide +kernel
theorem dL_holds_133 : decode cL_holds 133 = .ok (.ireturn, 1) := by decide +kernel
theorem dL_holds_134 : decode cL_holds 134 = .ok (.aload_n 0, 1) := by decide +kernel
theorem dL_holds_135 : decode cL_holds 135 = .ok (.iconst 0, 1) := by decide +kernel
theorem dL_holds_136 : decode cL_holds 136 = .ok (.iload_n 3, 1) := by decide +kernel
theorem dL_holds_137 : decode cL_holds 137 = .ok (.iconst 0, 1) := by decide +kernel
theorem dL_holds_138 : decode cL_holds 138 = .ok (.invokestatic 211, 3) := by decide +kernel
theorem dL_holds_141 : decode cL_holds 141 = .ok (.iload 4, 2) := by decide +kernel
theorem dL_holds_143 : decode cL_holds 143 = .ok (.if_icmp .gt 7, 3) := by decide +kernel
theorem dL_holds_146 : decode cL_holds 146 = .ok (.iconst 1, 1) := by decide +kernel
theorem dL_holds_147 : decode cL_holds 147 = .ok (.goto 4, 3) := by decide +kernel
theorem dL_holds_150 : decode cL_holds 150 = .ok (.iconst 0, 1) := by decide +kernel
theorem dL_holds_151 : decode cL_holds 151 = .ok (.ireturn, 1) := by decide +kernel
theorem dL_holds_152 : decode cL_holds 152 = .ok (.aload_n 0, 1) := by decide +kernel
theorem dL_holds_153 : decode cL_holds 153 = .ok (.iconst 3, 1) := by decide +kernel
theorem dL_holds_154 : decode cL_holds 154 = .ok (.iload_n 3, 1) := by decide +kernel
theorem dL_holds_155 : decode cL_holds 155 = .ok (.iconst 0, 1) := by decide +kernel
theorem dL_holds_156 : decode cL_holds 156 = .ok (.invokestatic 211, 3) := by decide +kernel
theorem dL_holds_159 : decode cL_holds 159 = .ok (.ifCond .lt 24, 3) := by decide +kernel
theorem dL_holds_162 : decode cL_holds 162 = .ok (.aload_n 0, 1) := by decide +kernel
theorem dL_holds_163 : decode cL_holds 163 = .ok (.invokevirtual 214, 3) := by decide +kernel
theorem dL_holds_166 : decode cL_holds 166 = .ok (.aload_n 0, 1) := by decide +kernel
theorem dL_holds_167 : decode cL_holds 167 = .ok (.iconst 3, 1) := by decide +kernel
theorem dL_holds_168 : decode cL_holds 168 = .ok (.iload_n 3, 1) := by decide +kernel
theorem dL_holds_169 : decode cL_holds 169 = .ok (.iconst 0, 1) := by decide +kernel
theorem dL_holds_170 : decode cL_holds 170 = .ok (.invokestatic 211, 3) := by decide +kernel
theorem dL_holds_173 : decode cL_holds 173 = .ok (.isub, 1) := by decide +kernel
theorem dL_holds_174 : decode cL_holds 174 = .ok (.iload 4, 2) := by decide +kernel
theorem dL_holds_176 : decode cL_holds 176 = .ok (.if_icmp .gt 7, 3) := by decide +kernel
theorem dL_holds_179 : decode cL_holds 179 = .ok (.iconst 1, 1) := by decide +kernel
theorem dL_holds_180 : decode cL_holds 180 = .ok (.goto 4, 3) := by decide +kernel
theorem dL_holds_183 : decode cL_holds 183 = .ok (.iconst 0, 1) := by decide +kernel
theorem dL_holds_184 : decode cL_holds 184 = .ok (.ireturn, 1) := by decide +kernel
theorem dL_holds_185 : decode cL_holds 185 = .ok (.aload_n 0, 1) := by decide +kernel
theorem dL_holds_186 : decode cL_holds 186 = .ok (.bipush 15, 2) := by decide +kernel
theorem dL_holds_188 : decode cL_holds 188 = .ok (.iload 4, 2) := by decide +kernel
theorem dL_holds_190 : decode cL_holds 190 = .ok (.iload_n 3, 1) := by decide +kernel
theorem dL_holds_191 : decode cL_holds 191 = .ok (.invokestatic 211, 3) := by decide +kernel
theorem dL_holds_194 : decode cL_holds 194 = .ok (.iconst 1, 1) := by decide +kernel
theorem dL_holds_195 : decode cL_holds 195 = .ok (.if_icmp .ne 7, 3) := by decide +kernel
theorem dL_holds_198 : decode cL_holds 198 = .ok (.iconst 1, 1) := by decide +kernel
theorem dL_holds_199 : decode cL_holds 199 = .ok (.goto 4, 3) := by decide +kernel
theorem dL_holds_202 : decode cL_holds 202 = .ok (.iconst 0, 1) := by decide +kernel
theorem dL_holds_203 : decode cL_holds 203 = .ok (.ireturn, 1) := by decide +kernel
theorem dL_holds_204 : decode cL_holds 204 = .ok (.aload_n 0, 1) := by decide +kernel
theorem dL_holds_205 : decode cL_holds 205 = .ok (.bipush 11, 2) := by decide +kernel
theorem dL_holds_207 : decode cL_holds 207 = .ok (.iload 4, 2) := by decide +kernel
theorem dL_holds_209 : decode cL_holds 209 = .ok (.iload_n 3, 1) := by decide +kernel
theorem dL_holds_210 : decode cL_holds 210 = .ok (.invokestatic 211, 3) := by decide +kernel
theorem dL_holds_213 : decode cL_holds 213 = .ok (.iconst 1, 1) := by decide +kernel
theorem dL_holds_214 : decode cL_holds 214 = .ok (.if_icmp .ne 20, 3) := by decide +kernel
theorem dL_holds_217 : decode cL_holds 217 = .ok (.aload_n 0, 1) := by decide +kernel
theorem dL_holds_218 : decode cL_holds 218 = .ok (.bipush 11, 2) := by decide +kernel
theorem dL_holds_220 : decode cL_holds 220 = .ok (.iload 5, 2) := by decide +kernel
theorem dL_holds_222 : decode cL_holds 222 = .ok (.iload_n 3, 1) := by decide +kernel
theorem dL_holds_223 : decode cL_holds 223 = .ok (.invokestatic 211, 3) := by decide +kernel
theorem dL_holds_226 : decode cL_holds 226 = .ok (.iconst 1, 1) := by decide +kernel
theorem dL_holds_227 : decode cL_holds 227 = .ok (.if_icmp .ne 7, 3) := by decide +kernel
theorem dL_holds_230 : decode cL_holds 230 = .ok (.iconst 1, 1) := by decide +kernel
theorem dL_holds_231 : decode cL_holds 231 = .ok (.goto 4, 3) := by decide +kernel
theorem dL_holds_234 : decode cL_holds 234 = .ok (.iconst 0, 1) := by decide +kernel
theorem dL_holds_235 : decode cL_holds 235 = .ok (.ireturn, 1) := by decide +kernel
theorem dL_holds_236 : decode cL_holds 236 = .ok (.aload_n 0, 1) := by decide +kernel
theorem dL_holds_237 : decode cL_holds 237 = .ok (.bipush 11, 2) := by decide +kernel
theorem dL_holds_239 : decode cL_holds 239 = .ok (.iload 4, 2) := by decide +kernel
theorem dL_holds_241 : decode cL_holds 241 = .ok (.iload_n 3, 1) := by decide +kernel
theorem dL_holds_242 : decode cL_holds 242 = .ok (.invokestatic 211, 3) := by decide +kernel
theorem dL_holds_245 : decode cL_holds 245 = .ok (.iconst 1, 1) := by decide +kernel
theorem dL_holds_246 : decode cL_holds 246 = .ok (.if_icmp .eq 16, 3) := by decide +kernel
theorem dL_holds_249 : decode cL_holds 249 = .ok (.aload_n 0, 1) := by decide +kernel
theorem dL_holds_250 : decode cL_holds 250 = .ok (.bipush 11, 2) := by decide +kernel
theorem dL_holds_252 : decode cL_holds 252 = .ok (.iload 5, 2) := by decide +kernel
theorem dL_holds_254 : decode cL_holds 254 = .ok (.iload_n 3, 1) := by decide +kernel
theorem dL_holds_255 : decode cL_holds 255 = .ok (.invokestatic 211, 3) := by decide +kernel
theorem dL_holds_258 : decode cL_holds 258 = .ok (.iconst 1, 1) := by decide +kernel
theorem dL_holds_259 : decode cL_holds 259 = .ok (.if_icmp .ne 7, 3) := by decide +kernel
theorem dL_holds_262 : decode cL_holds 262 = .ok (.iconst 1, 1) := by decide +kernel
theorem dL_holds_263 : decode cL_holds 263 = .ok (.goto 4, 3) := by decide +kernel
theorem dL_holds_266 : decode cL_holds 266 = .ok (.iconst 0, 1) := by decide +kernel
theorem dL_holds_267 : decode cL_holds 267 = .ok (.ireturn, 1) := by decide +kernel
theorem dL_holds_268 : decode cL_holds 268 = .ok (.aload_n 0, 1) := by decide +kernel
theorem dL_holds_269 : decode cL_holds 269 = .ok (.bipush 11, 2) := by decide +kernel
theorem dL_holds_271 : decode cL_holds 271 = .ok (.iload 4, 2) := by decide +kernel
theorem dL_holds_273 : decode cL_holds 273 = .ok (.iload_n 3, 1) := by decide +kernel
theorem dL_holds_274 : decode cL_holds 274 = .ok (.invokestatic 211, 3) := by decide +kernel
theorem dL_holds_277 : decode cL_holds 277 = .ok (.ifCond .ne 7, 3) := by decide +kernel
theorem dL_holds_280 : decode cL_holds 280 = .ok (.iconst 1, 1) := by decide +kernel
theorem dL_holds_281 : decode cL_holds 281 = .ok (.goto 4, 3) := by decide +kernel
theorem dL_holds_284 : decode cL_holds 284 = .ok (.iconst 0, 1) := by decide +kernel
theorem dL_holds_285 : decode cL_holds 285 = .ok (.ireturn, 1) := by decide +kernel
theorem dL_areRules_0 : decode cL_areRules 0 = .ok (.aload_n 0, 1) := by decide +kernel
theorem dL_areRules_1 : decode cL_areRules 1 = .ok (.bipush 10, 2) := by decide +kernel
theorem dL_areRules_3 : decode cL_areRules 3 = .ok (.aload_n 1, 1) := by decide +kernel
theorem dL_areRules_4 : decode cL_areRules 4 = .ok (.iconst 2, 1) := by decide +kernel
theorem dL_areRules_5 : decode cL_areRules 5 = .ok (.iaload, 1) := by decide +kernel
theorem dL_areRules_6 : decode cL_areRules 6 = .ok (.iconst 0, 1) := by decide +kernel
theorem dL_areRules_7 : decode cL_areRules 7 = .ok (.invokestatic 211, 3) := by decide +kernel
theorem dL_areRules_10 : decode cL_areRules 10 = .ok (.sipush (-2005), 3) := by decide +kernel
theorem dL_areRules_13 : decode cL_areRules 13 = .ok (.if_icmp .ne 23, 3) := by decide +kernel
theorem dL_areRules_16 : decode cL_areRules 16 = .ok (.aload_n 0, 1) := by decide +kernel
theorem dL_areRules_17 : decode cL_areRules 17 = .ok (.bipush 11, 2) := by decide +kernel
theorem dL_areRules_19 : decode cL_areRules 19 = .ok (.aload_n 1, 1) := by decide +kernel
theorem dL_areRules_20 : decode cL_areRules 20 = .ok (.iconst 2, 1) := by decide +kernel
theorem dL_areRules_21 : decode cL_areRules 21 = .ok (.iaload, 1) := by decide +kernel
theorem dL_areRules_22 : decode cL_areRules 22 = .ok (.iconst 0, 1) := by decide +kernel
theorem dL_areRules_23 : decode cL_areRules 23 = .ok (.invokestatic 211, 3) := by decide +kernel
theorem dL_areRules_26 : decode cL_areRules 26 = .ok (.sipush (-2005), 3) := by decide +kernel
theorem dL_areRules_29 : decode cL_areRules 29 = .ok (.if_icmp .ne 7, 3) := by decide +kernel
theorem dL_areRules_32 : decode cL_areRules 32 = .ok (.iconst 1, 1) := by decide +kernel
theorem dL_areRules_33 : decode cL_areRules 33 = .ok (.goto 4, 3) := by decide +kernel
theorem dL_areRules_36 : decode cL_areRules 36 = .ok (.iconst 0, 1) := by decide +kernel
theorem dL_areRules_37 : decode cL_areRules 37 = .ok (.istore_n 2, 1) := by decide +kernel
theorem dL_areRules_38 : decode cL_areRules 38 = .ok (.iconst 0, 1) := by decide +kernel
theorem dL_areRules_39 : decode cL_areRules 39 = .ok (.istore_n 3, 1) := by decide +kernel
theorem dL_areRules_40 : decode cL_areRules 40 = .ok (.iload_n 3, 1) := by decide +kernel
theorem dL_areRules_41 : decode cL_areRules 41 = .ok (.aload_n 1, 1) := by decide +kernel
theorem dL_areRules_42 : decode cL_areRules 42 = .ok (.iconst 2, 1) := by decide +kernel
theorem dL_areRules_43 : decode cL_areRules 43 = .ok (.iaload, 1) := by decide +kernel
theorem dL_areRules_44 : decode cL_areRules 44 = .ok (.if_icmp .ge 208, 3) := by decide +kernel
theorem dL_areRules_47 : decode cL_areRules 47 = .ok (.iload_n 2, 1) := by decide +kernel
theorem dL_areRules_48 : decode cL_areRules 48 = .ok (.ifCond .eq 204, 3) := by decide +kernel
theorem dL_areRules_51 : decode cL_areRules 51 = .ok (.aload_n 1, 1) := by decide +kernel
theorem dL_areRules_52 : decode cL_areRules 52 = .ok (.bipush 10, 2) := by decide +kernel
theorem dL_areRules_54 : decode cL_areRules 54 = .ok (.iconst 3, 1) := by decide +kernel
theorem dL_areRules_55 : decode cL_areRules 55 = .ok (.iload_n 3, 1) := by decide +kernel
theorem dL_areRules_56 : decode cL_areRules 56 = .ok (.imul, 1) := by decide +kernel
theorem dL_areRules_57 : decode cL_areRules 57 = .ok (.iadd, 1) := by decide +kernel
theorem dL_areRules_58 : decode cL_areRules 58 = .ok (.iaload, 1) := by decide +kernel
theorem dL_areRules_59 : decode cL_areRules 59 = .ok (.istore 4, 2) := by decide +kernel
theorem dL_areRules_61 : decode cL_areRules 61 = .ok (.aload_n 0, 1) := by decide +kernel
theorem dL_areRules_62 : decode cL_areRules 62 = .ok (.bipush 10, 2) := by decide +kernel
theorem dL_areRules_64 : decode cL_areRules 64 = .ok (.iload_n 3, 1) := by decide +kernel
theorem dL_areRules_65 : decode cL_areRules 65 = .ok (.iconst 0, 1) := by decide +kernel
theorem dL_areRules_66 : decode cL_areRules 66 = .ok (.invokestatic 211, 3) := by decide +kernel
theorem dL_areRules_69 : decode cL_areRules 69 = .ok (.iload 4, 2) := by decide +kernel
theorem dL_areRules_71 : decode cL_areRules 71 = .ok (.bipush 6, 2) := by decide +kernel
theorem dL_areRules_73 : decode cL_areRules 73 = .ok (.if_icmp .ge 7, 3) := by decide +kernel
theorem dL_areRules_76 : decode cL_areRules 76 = .ok (.iconst 1, 1) := by decide +kernel
theorem dL_areRules_77 : decode cL_areRules 77 = .ok (.goto 63, 3) := by decide +kernel
theorem dL_areRules_80 : decode cL_areRules 80 = .ok (.iload 4, 2) := by decide +kernel
theorem dL_areRules_82 : decode cL_areRules 82 = .ok (.bipush 8, 2) := by decide +kernel
theorem dL_areRules_84 : decode cL_areRules 84 = .ok (.if_icmp .ne 23, 3) := by decide +kernel
theorem dL_areRules_87 : decode cL_areRules 87 = .ok (.iconst 1, 1) := by decide +kernel
theorem dL_areRules_88 : decode cL_areRules 88 = .ok (.aload_n 0, 1) := by decide +kernel
theorem dL_areRules_89 : decode cL_areRules 89 = .ok (.bipush 10, 2) := by decide +kernel
theorem dL_areRules_91 : decode cL_areRules 91 = .ok (.aload_n 1, 1) := by decide +kernel
theorem dL_areRules_92 : decode cL_areRules 92 = .ok (.bipush 11, 2) := by decide +kernel
theorem dL_areRules_94 : decode cL_areRules 94 = .ok (.iconst 3, 1) := by decide +kernel
theorem dL_areRules_95 : decode cL_areRules 95 = .ok (.iload_n 3, 1) := by decide +kernel
theorem dL_areRules_96 : decode cL_areRules 96 = .ok (.imul, 1) := by decide +kernel
theorem dL_areRules_97 : decode cL_areRules 97 = .ok (.iadd, 1) := by decide +kernel
theorem dL_areRules_98 : decode cL_areRules 98 = .ok (.iaload, 1) := by decide +kernel
theorem dL_areRules_99 : decode cL_areRules 99 = .ok (.iconst 0, 1) := by decide +kernel
theorem dL_areRules_100 : decode cL_areRules 100 = .ok (.invokestatic 211, 3) := by decide +kernel
theorem dL_areRules_103 : decode cL_areRules 103 = .ok (.iadd, 1) := by decide +kernel
theorem dL_areRules_104 : decode cL_areRules 104 = .ok (.goto 36, 3) := by decide +kernel
theorem dL_areRules_107 : decode cL_areRules 107 = .ok (.iconst 1, 1) := by decide +kernel
theorem dL_areRules_108 : decode cL_areRules 108 = .ok (.aload_n 0, 1) := by decide +kernel
theorem dL_areRules_109 : decode cL_areRules 109 = .ok (.bipush 10, 2) := by decide +kernel
theorem dL_areRules_111 : decode cL_areRules 111 = .ok (.aload_n 1, 1) := by decide +kernel
theorem dL_areRules_112 : decode cL_areRules 112 = .ok (.bipush 11, 2) := by decide +kernel
theorem dL_areRules_114 : decode cL_areRules 114 = .ok (.iconst 3, 1) := by decide +kernel
theorem dL_areRules_115 : decode cL_areRules 115 = .ok (.iload_n 3, 1) := by decide +kernel
theorem dL_areRules_116 : decode cL_areRules 116 = .ok (.imul, 1) := by decide +kernel
theorem dL_areRules_117 : decode cL_areRules 117 = .ok (.iadd, 1) := by decide +kernel
theorem dL_areRules_118 : decode cL_areRules 118 = .ok (.iaload, 1) := by decide +kernel
theorem dL_areRules_119 : decode cL_areRules 119 = .ok (.iconst 0, 1) := by decide +kernel
theorem dL_areRules_120 : decode cL_areRules 120 = .ok (.invokestatic 211, 3) := by decide +kernel
theorem dL_areRules_123 : decode cL_areRules 123 = .ok (.iadd, 1) := by decide +kernel
theorem dL_areRules_124 : decode cL_areRules 124 = .ok (.aload_n 0, 1) := by decide +kernel
theorem dL_areRules_125 : decode cL_areRules 125 = .ok (.bipush 10, 2) := by decide +kernel
theorem dL_areRules_127 : decode cL_areRules 127 = .ok (.aload_n 1, 1) := by decide +kernel
theorem dL_areRules_128 : decode cL_areRules 128 = .ok (.bipush 12, 2) := by decide +kernel
theorem dL_areRules_130 : decode cL_areRules 130 = .ok (.iconst 3, 1) := by decide +kernel
theorem dL_areRules_131 : decode cL_areRules 131 = .ok (.iload_n 3, 1) := by decide +kernel
theorem dL_areRules_132 : decode cL_areRules 132 = .ok (.imul, 1) := by decide +kernel
theorem dL_areRules_133 : decode cL_areRules 133 = .ok (.iadd, 1) := by decide +kernel
theorem dL_areRules_134 : decode cL_areRules 134 = .ok (.iaload, 1) := by decide +kernel
theorem dL_areRules_135 : decode cL_areRules 135 = .ok (.iconst 0, 1) := by decide +kernel
theorem dL_areRules_136 : decode cL_areRules 136 = .ok (.invokestatic 211, 3) := by decide +kernel
theorem dL_areRules_139 : decode cL_areRules 139 = .ok (.iadd, 1) := by decide +kernel
theorem dL_areRules_140 : decode cL_areRules 140 = .ok (.if_icmp .ne 20, 3) := by decide +kernel
theorem dL_areRules_143 : decode cL_areRules 143 = .ok (.aload_n 0, 1) := by decide +kernel
theorem dL_areRules_144 : decode cL_areRules 144 = .ok (.bipush 10, 2) := by decide +kernel
theorem dL_areRules_146 : decode cL_areRules 146 = .ok (.iload_n 3, 1) := by decide +kernel
theorem dL_areRules_147 : decode cL_areRules 147 = .ok (.iconst 0, 1) := by decide +kernel
theorem dL_areRules_148 : decode cL_areRules 148 = .ok (.invokestatic 211, 3) := by decide +kernel
theorem dL_areRules_151 : decode cL_areRules 151 = .ok (.bipush 15, 2) := by decide +kernel
theorem dL_areRules_153 : decode cL_areRules 153 = .ok (.if_icmp .gt 7, 3) := by decide +kernel
theorem dL_areRules_156 : decode cL_areRules 156 = .ok (.iconst 1, 1) := by decide +kernel
theorem dL_areRules_157 : decode cL_areRules 157 = .ok (.goto 4, 3) := by decide +kernel
theorem dL_areRules_160 : decode cL_areRules 160 = .ok (.iconst 0, 1) := by decide +kernel
theorem dL_areRules_161 : decode cL_areRules 161 = .ok (.istore_n 2, 1) := by decide +kernel
theorem dL_areRules_162 : decode cL_areRules 162 = .ok (.iconst 0, 1) := by decide +kernel
theorem dL_areRules_163 : decode cL_areRules 163 = .ok (.istore 5, 2) := by decide +kernel
theorem dL_areRules_165 : decode cL_areRules 165 = .ok (.iload 5, 2) := by decide +kernel
theorem dL_areRules_167 : decode cL_areRules 167 = .ok (.aload_n 1, 1) := by decide +kernel
theorem dL_areRules_168 : decode cL_areRules 168 = .ok (.iconst 0, 1) := by decide +kernel
theorem dL_areRules_169 : decode cL_areRules 169 = .ok (.iaload, 1) := by decide +kernel
theorem dL_areRules_170 : decode cL_areRules 170 = .ok (.if_icmp .ge 76, 3) := by decide +kernel
theorem dL_areRules_173 : decode cL_areRules 173 = .ok (.iload_n 2, 1) := by decide +kernel
theorem dL_areRules_174 : decode cL_areRules 174 = .ok (.ifCond .eq 72, 3) := by decide +kernel
theorem dL_areRules_177 : decode cL_areRules 177 = .ok (.aload_n 0, 1) := by decide +kernel
theorem dL_areRules_178 : decode cL_areRules 178 = .ok (.bipush 11, 2) := by decide +kernel
theorem dL_areRules_180 : decode cL_areRules 180 = .ok (.iload_n 3, 1) := by decide +kernel
theorem dL_areRules_181 : decode cL_areRules 181 = .ok (.iload 5, 2) := by decide +kernel
theorem dL_areRules_183 : decode cL_areRules 183 = .ok (.invokestatic 211, 3) := by decide +kernel
theorem dL_areRules_186 : decode cL_areRules 186 = .ok (.istore 6, 2) := by decide +kernel
theorem dL_areRules_188 : decode cL_areRules 188 = .ok (.aload_n 0, 1) := by decide +kernel
theorem dL_areRules_189 : decode cL_areRules 189 = .ok (.iconst 0, 1) := by decide +kernel
theorem dL_areRules_190 : decode cL_areRules 190 = .ok (.iload 5, 2) := by decide +kernel
theorem dL_areRules_192 : decode cL_areRules 192 = .ok (.iconst 0, 1) := by decide +kernel
theorem dL_areRules_193 : decode cL_areRules 193 = .ok (.invokestatic 211, 3) := by decide +kernel
theorem dL_areRules_196 : decode cL_areRules 196 = .ok (.sipush (-2005), 3) := by decide +kernel
theorem dL_areRules_199 : decode cL_areRules 199 = .ok (.if_icmp .ne 19, 3) := by decide +kernel
theorem dL_areRules_202 : decode cL_areRules 202 = .ok (.iload 6, 2) := by decide +kernel
theorem dL_areRules_204 : decode cL_areRules 204 = .ok (.sipush (-2005), 3) := by decide +kernel
theorem dL_areRules_207 : decode cL_areRules 207 = .ok (.if_icmp .ne 7, 3) := by decide +kernel
theorem dL_areRules_210 : decode cL_areRules 210 = .ok (.iconst 1, 1) := by decide +kernel
theorem dL_areRules_211 : decode cL_areRules 211 = .ok (.goto 28, 3) := by decide +kernel
theorem dL_areRules_214 : decode cL_areRules 214 = .ok (.iconst 0, 1) := by decide +kernel
theorem dL_areRules_215 : decode cL_areRules 215 = .ok (.goto 24, 3) := by decide +kernel
theorem dL_areRules_218 : decode cL_areRules 218 = .ok (.iload 6, 2) := by decide +kernel
theorem dL_areRules_220 : decode cL_areRules 220 = .ok (.aload_n 0, 1) := by decide +kernel
theorem dL_areRules_221 : decode cL_areRules 221 = .ok (.aload_n 1, 1) := by decide +kernel
theorem dL_areRules_222 : decode cL_areRules 222 = .ok (.iload_n 3, 1) := by decide +kernel
theorem dL_areRules_223 : decode cL_areRules 223 = .ok (.iload 5, 2) := by decide +kernel
theorem dL_areRules_225 : decode cL_areRules 225 = .ok (.invokestatic 217, 3) := by decide +kernel
theorem dL_areRules_228 : decode cL_areRules 228 = .ok (.invokestatic 147, 3) := by decide +kernel
theorem dL_areRules_231 : decode cL_areRules 231 = .ok (.if_icmp .ne 7, 3) := by decide +kernel
theorem dL_areRules_234 : decode cL_areRules 234 = .ok (.iconst 1, 1) := by decide +kernel
theorem dL_areRules_235 : decode cL_areRules 235 = .ok (.goto 4, 3) := by decide +kernel
theorem dL_areRules_238 : decode cL_areRules 238 = .ok (.iconst 0, 1) := by decide +kernel
theorem dL_areRules_239 : decode cL_areRules 239 = .ok (.istore_n 2, 1) := by decide +kernel
theorem dL_areRules_240 : decode cL_areRules 240 = .ok (.iinc 5 1, 3) := by decide +kernel
theorem dL_areRules_243 : decode cL_areRules 243 = .ok (.goto (-78), 3) := by decide +kernel
theorem dL_areRules_246 : decode cL_areRules 246 = .ok (.iinc 3 1, 3) := by decide +kernel
theorem dL_areRules_249 : decode cL_areRules 249 = .ok (.goto (-209), 3) := by decide +kernel
theorem dL_areRules_252 : decode cL_areRules 252 = .ok (.iload_n 2, 1) := by decide +kernel
theorem dL_areRules_253 : decode cL_areRules 253 = .ok (.ireturn, 1) := by decide +kernel
theorem dL_isAhead_0 : decode cL_isAhead 0 = .ok (.iload_n 1, 1) := by decide +kernel
theorem dL_isAhead_1 : decode cL_isAhead 1 = .ok (.bipush 115, 2) := by decide +kernel
theorem dL_isAhead_3 : decode cL_isAhead 3 = .ok (.if_icmp .ne 7, 3) := by decide +kernel
theorem dL_isAhead_6 : decode cL_isAhead 6 = .ok (.iconst 0, 1) := by decide +kernel
theorem dL_isAhead_7 : decode cL_isAhead 7 = .ok (.goto 14, 3) := by decide +kernel
theorem dL_isAhead_10 : decode cL_isAhead 10 = .ok (.iload_n 1, 1) := by decide +kernel
theorem dL_isAhead_11 : decode cL_isAhead 11 = .ok (.bipush 114, 2) := by decide +kernel
theorem dL_isAhead_13 : decode cL_isAhead 13 = .ok (.if_icmp .ne 7, 3) := by decide +kernel
theorem dL_isAhead_16 : decode cL_isAhead 16 = .ok (.iconst 1, 1) := by decide +kernel
theorem dL_isAhead_17 : decode cL_isAhead 17 = .ok (.goto 4, 3) := by decide +kernel
theorem dL_isAhead_20 : decode cL_isAhead 20 = .ok (.iconst 2, 1) := by decide +kernel
theorem dL_isAhead_21 : decode cL_isAhead 21 = .ok (.istore 4, 2) := by decide +kernel
theorem dL_isAhead_23 : decode cL_isAhead 23 = .ok (.iload_n 1, 1) := by decide +kernel
theorem dL_isAhead_24 : decode cL_isAhead 24 = .ok (.bipush 110, 2) := by decide +kernel
theorem dL_isAhead_26 : decode cL_isAhead 26 = .ok (.if_icmp .ne 8, 3) := by decide +kernel
theorem dL_isAhead_29 : decode cL_isAhead 29 = .ok (.iload_n 2, 1) := by decide +kernel
theorem dL_isAhead_30 : decode cL_isAhead 30 = .ok (.ineg, 1) := by decide +kernel
theorem dL_isAhead_31 : decode cL_isAhead 31 = .ok (.goto 29, 3) := by decide +kernel
theorem dL_isAhead_34 : decode cL_isAhead 34 = .ok (.iload_n 1, 1) := by decide +kernel
theorem dL_isAhead_35 : decode cL_isAhead 35 = .ok (.bipush 114, 2) := by decide +kernel
theorem dL_isAhead_37 : decode cL_isAhead 37 = .ok (.if_icmp .ne 15, 3) := by decide +kernel
theorem dL_isAhead_40 : decode cL_isAhead 40 = .ok (.aload_n 0, 1) := by decide +kernel
theorem dL_isAhead_41 : decode cL_isAhead 41 = .ok (.iload 4, 2) := by decide +kernel
theorem dL_isAhead_43 : decode cL_isAhead 43 = .ok (.iload_n 2, 1) := by decide +kernel
theorem dL_isAhead_44 : decode cL_isAhead 44 = .ok (.iconst 0, 1) := by decide +kernel
theorem dL_isAhead_45 : decode cL_isAhead 45 = .ok (.invokestatic 211, 3) := by decide +kernel
theorem dL_isAhead_48 : decode cL_isAhead 48 = .ok (.ineg, 1) := by decide +kernel
theorem dL_isAhead_49 : decode cL_isAhead 49 = .ok (.goto 11, 3) := by decide +kernel
theorem dL_isAhead_52 : decode cL_isAhead 52 = .ok (.aload_n 0, 1) := by decide +kernel
theorem dL_isAhead_53 : decode cL_isAhead 53 = .ok (.iload 4, 2) := by decide +kernel
theorem dL_isAhead_55 : decode cL_isAhead 55 = .ok (.iload_n 2, 1) := by decide +kernel
theorem dL_isAhead_56 : decode cL_isAhead 56 = .ok (.iconst 0, 1) := by decide +kernel
theorem dL_isAhead_57 : decode cL_isAhead 57 = .ok (.invokestatic 211, 3) := by decide +kernel
theorem dL_isAhead_60 : decode cL_isAhead 60 = .ok (.istore 5, 2) := by decide +kernel
theorem dL_isAhead_62 : decode cL_isAhead 62 = .ok (.iload_n 1, 1) := by decide +kernel
theorem dL_isAhead_63 : decode cL_isAhead 63 = .ok (.bipush 110, 2) := by decide +kernel
theorem dL_isAhead_65 : decode cL_isAhead 65 = .ok (.if_icmp .ne 8, 3) := by decide +kernel
theorem dL_isAhead_68 : decode cL_isAhead 68 = .ok (.iload_n 3, 1) := by decide +kernel
theorem dL_isAhead_69 : decode cL_isAhead 69 = .ok (.ineg, 1) := by decide +kernel
theorem dL_isAhead_70 : decode cL_isAhead 70 = .ok (.goto 29, 3) := by decide +kernel
theorem dL_isAhead_73 : decode cL_isAhead 73 = .ok (.iload_n 1, 1) := by decide +kernel
theorem dL_isAhead_74 : decode cL_isAhead 74 = .ok (.bipush 114, 2) := by decide +kernel
theorem dL_isAhead_76 : decode cL_isAhead 76 = .ok (.if_icmp .ne 15, 3) := by decide +kernel
theorem dL_isAhead_79 : decode cL_isAhead 79 = .ok (.aload_n 0, 1) := by decide +kernel
theorem dL_isAhead_80 : decode cL_isAhead 80 = .ok (.iload 4, 2) := by decide +kernel
theorem dL_isAhead_82 : decode cL_isAhead 82 = .ok (.iload_n 3, 1) := by decide +kernel
theorem dL_isAhead_83 : decode cL_isAhead 83 = .ok (.iconst 0, 1) := by decide +kernel
theorem dL_isAhead_84 : decode cL_isAhead 84 = .ok (.invokestatic 211, 3) := by decide +kernel
theorem dL_isAhead_87 : decode cL_isAhead 87 = .ok (.ineg, 1) := by decide +kernel
theorem dL_isAhead_88 : decode cL_isAhead 88 = .ok (.goto 11, 3) := by decide +kernel
theorem dL_isAhead_91 : decode cL_isAhead 91 = .ok (.aload_n 0, 1) := by decide +kernel
theorem dL_isAhead_92 : decode cL_isAhead 92 = .ok (.iload 4, 2) := by decide +kernel
theorem dL_isAhead_94 : decode cL_isAhead 94 = .ok (.iload_n 3, 1) := by decide +kernel
theorem dL_isAhead_95 : decode cL_isAhead 95 = .ok (.iconst 0, 1) := by decide +kernel
theorem dL_isAhead_96 : decode cL_isAhead 96 = .ok (.invokestatic 211, 3) := by decide +kernel
theorem dL_isAhead_99 : decode cL_isAhead 99 = .ok (.istore 6, 2) := by decide +kernel
theorem dL_isAhead_101 : decode cL_isAhead 101 = .ok (.iload 5, 2) := by decide +kernel
theorem dL_isAhead_103 : decode cL_isAhead 103 = .ok (.iload 6, 2) := by decide +kernel
theorem dL_isAhead_105 : decode cL_isAhead 105 = .ok (.if_icmp .lt 15, 3) := by decide +kernel
theorem dL_isAhead_108 : decode cL_isAhead 108 = .ok (.iload 5, 2) := by decide +kernel
theorem dL_isAhead_110 : decode cL_isAhead 110 = .ok (.iload 6, 2) := by decide +kernel
theorem dL_isAhead_112 : decode cL_isAhead 112 = .ok (.if_icmp .ne 12, 3) := by decide +kernel
theorem dL_isAhead_115 : decode cL_isAhead 115 = .ok (.iload_n 2, 1) := by decide +kernel
theorem dL_isAhead_116 : decode cL_isAhead 116 = .ok (.iload_n 3, 1) := by decide +kernel
theorem dL_isAhead_117 : decode cL_isAhead 117 = .ok (.if_icmp .ge 7, 3) := by decide +kernel
theorem dL_isAhead_120 : decode cL_isAhead 120 = .ok (.iconst 1, 1) := by decide +kernel
theorem dL_isAhead_121 : decode cL_isAhead 121 = .ok (.goto 4, 3) := by decide +kernel
theorem dL_isAhead_124 : decode cL_isAhead 124 = .ok (.iconst 0, 1) := by decide +kernel
theorem dL_isAhead_125 : decode cL_isAhead 125 = .ok (.ireturn, 1) := by decide +kernel
