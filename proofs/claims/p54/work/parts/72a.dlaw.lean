/-! decode rows of the law's methods (as printed) -/
theorem dL_cell_0 : decode cL_cell 0 = .ok (.ldc 7, 2) := by decide +kernel
theorem dL_cell_2 : decode cL_cell 2 = .ok (.iload_n 1, 1) := by decide +kernel
theorem dL_cell_3 : decode cL_cell 3 = .ok (.aload_n 0, 1) := by decide +kernel
theorem dL_cell_4 : decode cL_cell 4 = .ok (.arraylength, 1) := by decide +kernel
theorem dL_cell_5 : decode cL_cell 5 = .ok (.if_icmp .ge 9, 3) := by decide +kernel
theorem dL_cell_8 : decode cL_cell 8 = .ok (.aload_n 0, 1) := by decide +kernel
theorem dL_cell_9 : decode cL_cell 9 = .ok (.iload_n 1, 1) := by decide +kernel
theorem dL_cell_10 : decode cL_cell 10 = .ok (.iaload, 1) := by decide +kernel
theorem dL_cell_11 : decode cL_cell 11 = .ok (.goto 4, 3) := by decide +kernel
theorem dL_cell_14 : decode cL_cell 14 = .ok (.iconst 0, 1) := by decide +kernel
theorem dL_cell_15 : decode cL_cell 15 = .ok (.sipush 1009, 3) := by decide +kernel
theorem dL_cell_18 : decode cL_cell 18 = .ok (.iload_n 1, 1) := by decide +kernel
theorem dL_cell_19 : decode cL_cell 19 = .ok (.imul, 1) := by decide +kernel
theorem dL_cell_20 : decode cL_cell 20 = .ok (.iadd, 1) := by decide +kernel
theorem dL_cell_21 : decode cL_cell 21 = .ok (.imul, 1) := by decide +kernel
theorem dL_cell_22 : decode cL_cell 22 = .ok (.sipush 12345, 3) := by decide +kernel
theorem dL_cell_25 : decode cL_cell 25 = .ok (.iadd, 1) := by decide +kernel
theorem dL_cell_26 : decode cL_cell 26 = .ok (.istore_n 2, 1) := by decide +kernel
theorem dL_cell_27 : decode cL_cell 27 = .ok (.iload_n 2, 1) := by decide +kernel
theorem dL_cell_28 : decode cL_cell 28 = .ok (.iload_n 2, 1) := by decide +kernel
theorem dL_cell_29 : decode cL_cell 29 = .ok (.bipush 13, 2) := by decide +kernel
theorem dL_cell_31 : decode cL_cell 31 = .ok (.iushr, 1) := by decide +kernel
theorem dL_cell_32 : decode cL_cell 32 = .ok (.ixor, 1) := by decide +kernel
theorem dL_cell_33 : decode cL_cell 33 = .ok (.ldc 8, 2) := by decide +kernel
theorem dL_cell_35 : decode cL_cell 35 = .ok (.imul, 1) := by decide +kernel
theorem dL_cell_36 : decode cL_cell 36 = .ok (.istore_n 2, 1) := by decide +kernel
theorem dL_cell_37 : decode cL_cell 37 = .ok (.iload_n 2, 1) := by decide +kernel
theorem dL_cell_38 : decode cL_cell 38 = .ok (.iload_n 2, 1) := by decide +kernel
theorem dL_cell_39 : decode cL_cell 39 = .ok (.bipush 16, 2) := by decide +kernel
theorem dL_cell_41 : decode cL_cell 41 = .ok (.iushr, 1) := by decide +kernel
theorem dL_cell_42 : decode cL_cell 42 = .ok (.ixor, 1) := by decide +kernel
theorem dL_cell_43 : decode cL_cell 43 = .ok (.ireturn, 1) := by decide +kernel
theorem dL_pick_0 : decode cL_pick 0 = .ok (.aload_n 0, 1) := by decide +kernel
theorem dL_pick_1 : decode cL_pick 1 = .ok (.iload_n 1, 1) := by decide +kernel
theorem dL_pick_2 : decode cL_pick 2 = .ok (.invokestatic 9, 3) := by decide +kernel
theorem dL_pick_5 : decode cL_pick 5 = .ok (.bipush 8, 2) := by decide +kernel
theorem dL_pick_7 : decode cL_pick 7 = .ok (.iushr, 1) := by decide +kernel
theorem dL_pick_8 : decode cL_pick 8 = .ok (.iload_n 2, 1) := by decide +kernel
theorem dL_pick_9 : decode cL_pick 9 = .ok (.irem, 1) := by decide +kernel
theorem dL_pick_10 : decode cL_pick 10 = .ok (.ireturn, 1) := by decide +kernel
theorem dL_told_0 : decode cL_told 0 = .ok (.iload_n 0, 1) := by decide +kernel
theorem dL_told_1 : decode cL_told 1 = .ok (.ifCond .eq 7, 3) := by decide +kernel
theorem dL_told_4 : decode cL_told 4 = .ok (.iconst 1, 1) := by decide +kernel
theorem dL_told_5 : decode cL_told 5 = .ok (.goto 4, 3) := by decide +kernel
theorem dL_told_8 : decode cL_told 8 = .ok (.iconst 0, 1) := by decide +kernel
theorem dL_told_9 : decode cL_told 9 = .ok (.ireturn, 1) := by decide +kernel
theorem dL_plain_0 : decode cL_plain 0 = .ok (.iload_n 1, 1) := by decide +kernel
theorem dL_plain_1 : decode cL_plain 1 = .ok (.tableswitch 259 0 22 #[107, 114, 120, 127, 133, 139, 144, 152, 159, 166, 173, 178, 184, 190, 196, 202, 208, 214, 221, 228, 234, 244, 251], 107) := by decide +kernel
theorem dL_plain_108 : decode cL_plain 108 = .ok (.aload_n 0, 1) := by decide +kernel
theorem dL_plain_109 : decode cL_plain 109 = .ok (.iload_n 2, 1) := by decide +kernel
theorem dL_plain_110 : decode cL_plain 110 = .ok (.iload_n 3, 1) := by decide +kernel
theorem dL_plain_111 : decode cL_plain 111 = .ok (.invokevirtual 15, 3) := by decide +kernel
theorem dL_plain_114 : decode cL_plain 114 = .ok (.ireturn, 1) := by decide +kernel
theorem dL_plain_115 : decode cL_plain 115 = .ok (.aload_n 0, 1) := by decide +kernel
theorem dL_plain_116 : decode cL_plain 116 = .ok (.iload_n 2, 1) := by decide +kernel
theorem dL_plain_117 : decode cL_plain 117 = .ok (.invokevirtual 21, 3) := by decide +kernel
theorem dL_plain_120 : decode cL_plain 120 = .ok (.ireturn, 1) := by decide +kernel
theorem dL_plain_121 : decode cL_plain 121 = .ok (.aload_n 0, 1) := by decide +kernel
theorem dL_plain_122 : decode cL_plain 122 = .ok (.iload_n 2, 1) := by decide +kernel
theorem dL_plain_123 : decode cL_plain 123 = .ok (.iload_n 3, 1) := by decide +kernel
theorem dL_plain_124 : decode cL_plain 124 = .ok (.invokevirtual 25, 3) := by decide +kernel
theorem dL_plain_127 : decode cL_plain 127 = .ok (.ireturn, 1) := by decide +kernel
theorem dL_plain_128 : decode cL_plain 128 = .ok (.aload_n 0, 1) := by decide +kernel
theorem dL_plain_129 : decode cL_plain 129 = .ok (.iload_n 2, 1) := by decide +kernel
theorem dL_plain_130 : decode cL_plain 130 = .ok (.invokevirtual 28, 3) := by decide +kernel
theorem dL_plain_133 : decode cL_plain 133 = .ok (.ireturn, 1) := by decide +kernel
theorem dL_plain_134 : decode cL_plain 134 = .ok (.aload_n 0, 1) := by decide +kernel
theorem dL_plain_135 : decode cL_plain 135 = .ok (.iload_n 2, 1) := by decide +kernel
theorem dL_plain_136 : decode cL_plain 136 = .ok (.invokevirtual 31, 3) := by decide +kernel
theorem dL_plain_139 : decode cL_plain 139 = .ok (.ireturn, 1) := by decide +kernel
theorem dL_plain_140 : decode cL_plain 140 = .ok (.aload_n 0, 1) := by decide +kernel
theorem dL_plain_141 : decode cL_plain 141 = .ok (.invokevirtual 34, 3) := by decide +kernel
theorem dL_plain_144 : decode cL_plain 144 = .ok (.ireturn, 1) := by decide +kernel
theorem dL_plain_145 : decode cL_plain 145 = .ok (.aload_n 0, 1) := by decide +kernel
theorem dL_plain_146 : decode cL_plain 146 = .ok (.iload_n 2, 1) := by decide +kernel
theorem dL_plain_147 : decode cL_plain 147 = .ok (.iload_n 3, 1) := by decide +kernel
theorem dL_plain_148 : decode cL_plain 148 = .ok (.i2c, 1) := by decide +kernel
theorem dL_plain_149 : decode cL_plain 149 = .ok (.invokevirtual 38, 3) := by decide +kernel
theorem dL_plain_152 : decode cL_plain 152 = .ok (.ireturn, 1) := by decide +kernel
theorem dL_plain_153 : decode cL_plain 153 = .ok (.aload_n 0, 1) := by decide +kernel
theorem dL_plain_154 : decode cL_plain 154 = .ok (.iload_n 2, 1) := by decide +kernel
theorem dL_plain_155 : decode cL_plain 155 = .ok (.iload_n 3, 1) := by decide +kernel
theorem dL_plain_156 : decode cL_plain 156 = .ok (.invokevirtual 42, 3) := by decide +kernel
theorem dL_plain_159 : decode cL_plain 159 = .ok (.ireturn, 1) := by decide +kernel
theorem dL_plain_160 : decode cL_plain 160 = .ok (.aload_n 0, 1) := by decide +kernel
theorem dL_plain_161 : decode cL_plain 161 = .ok (.iload_n 2, 1) := by decide +kernel
theorem dL_plain_162 : decode cL_plain 162 = .ok (.iload_n 3, 1) := by decide +kernel
theorem dL_plain_163 : decode cL_plain 163 = .ok (.invokevirtual 45, 3) := by decide +kernel
theorem dL_plain_166 : decode cL_plain 166 = .ok (.ireturn, 1) := by decide +kernel
theorem dL_plain_167 : decode cL_plain 167 = .ok (.aload_n 0, 1) := by decide +kernel
theorem dL_plain_168 : decode cL_plain 168 = .ok (.iload_n 2, 1) := by decide +kernel
theorem dL_plain_169 : decode cL_plain 169 = .ok (.iload_n 3, 1) := by decide +kernel
theorem dL_plain_170 : decode cL_plain 170 = .ok (.invokevirtual 48, 3) := by decide +kernel
theorem dL_plain_173 : decode cL_plain 173 = .ok (.ireturn, 1) := by decide +kernel
theorem dL_plain_174 : decode cL_plain 174 = .ok (.aload_n 0, 1) := by decide +kernel
theorem dL_plain_175 : decode cL_plain 175 = .ok (.invokevirtual 51, 3) := by decide +kernel
theorem dL_plain_178 : decode cL_plain 178 = .ok (.ireturn, 1) := by decide +kernel
theorem dL_plain_179 : decode cL_plain 179 = .ok (.aload_n 0, 1) := by decide +kernel
theorem dL_plain_180 : decode cL_plain 180 = .ok (.iload_n 2, 1) := by decide +kernel
theorem dL_plain_181 : decode cL_plain 181 = .ok (.invokevirtual 54, 3) := by decide +kernel
theorem dL_plain_184 : decode cL_plain 184 = .ok (.ireturn, 1) := by decide +kernel
theorem dL_plain_185 : decode cL_plain 185 = .ok (.aload_n 0, 1) := by decide +kernel
theorem dL_plain_186 : decode cL_plain 186 = .ok (.iload_n 2, 1) := by decide +kernel
theorem dL_plain_187 : decode cL_plain 187 = .ok (.invokevirtual 57, 3) := by decide +kernel
theorem dL_plain_190 : decode cL_plain 190 = .ok (.ireturn, 1) := by decide +kernel
theorem dL_plain_191 : decode cL_plain 191 = .ok (.aload_n 0, 1) := by decide +kernel
theorem dL_plain_192 : decode cL_plain 192 = .ok (.iload_n 2, 1) := by decide +kernel
theorem dL_plain_193 : decode cL_plain 193 = .ok (.invokevirtual 60, 3) := by decide +kernel
theorem dL_plain_196 : decode cL_plain 196 = .ok (.ireturn, 1) := by decide +kernel
theorem dL_plain_197 : decode cL_plain 197 = .ok (.aload_n 0, 1) := by decide +kernel
theorem dL_plain_198 : decode cL_plain 198 = .ok (.iload_n 2, 1) := by decide +kernel
theorem dL_plain_199 : decode cL_plain 199 = .ok (.invokevirtual 63, 3) := by decide +kernel
theorem dL_plain_202 : decode cL_plain 202 = .ok (.ireturn, 1) := by decide +kernel
theorem dL_plain_203 : decode cL_plain 203 = .ok (.aload_n 0, 1) := by decide +kernel
theorem dL_plain_204 : decode cL_plain 204 = .ok (.iload_n 2, 1) := by decide +kernel
theorem dL_plain_205 : decode cL_plain 205 = .ok (.invokevirtual 66, 3) := by decide +kernel
theorem dL_plain_208 : decode cL_plain 208 = .ok (.ireturn, 1) := by decide +kernel
theorem dL_plain_209 : decode cL_plain 209 = .ok (.aload_n 0, 1) := by decide +kernel
theorem dL_plain_210 : decode cL_plain 210 = .ok (.iload_n 2, 1) := by decide +kernel
theorem dL_plain_211 : decode cL_plain 211 = .ok (.invokevirtual 69, 3) := by decide +kernel
theorem dL_plain_214 : decode cL_plain 214 = .ok (.ireturn, 1) := by decide +kernel
theorem dL_plain_215 : decode cL_plain 215 = .ok (.aload_n 0, 1) := by decide +kernel
theorem dL_plain_216 : decode cL_plain 216 = .ok (.iload_n 2, 1) := by decide +kernel
theorem dL_plain_217 : decode cL_plain 217 = .ok (.iload_n 3, 1) := by decide +kernel
theorem dL_plain_218 : decode cL_plain 218 = .ok (.invokevirtual 72, 3) := by decide +kernel
theorem dL_plain_221 : decode cL_plain 221 = .ok (.ireturn, 1) := by decide +kernel
theorem dL_plain_222 : decode cL_plain 222 = .ok (.aload_n 0, 1) := by decide +kernel
theorem dL_plain_223 : decode cL_plain 223 = .ok (.iload_n 2, 1) := by decide +kernel
theorem dL_plain_224 : decode cL_plain 224 = .ok (.iload_n 3, 1) := by decide +kernel
theorem dL_plain_225 : decode cL_plain 225 = .ok (.invokevirtual 75, 3) := by decide +kernel
theorem dL_plain_228 : decode cL_plain 228 = .ok (.ireturn, 1) := by decide +kernel
theorem dL_plain_229 : decode cL_plain 229 = .ok (.aload_n 0, 1) := by decide +kernel
theorem dL_plain_230 : decode cL_plain 230 = .ok (.iload_n 2, 1) := by decide +kernel
theorem dL_plain_231 : decode cL_plain 231 = .ok (.invokevirtual 78, 3) := by decide +kernel
theorem dL_plain_234 : decode cL_plain 234 = .ok (.ireturn, 1) := by decide +kernel
theorem dL_plain_235 : decode cL_plain 235 = .ok (.aload_n 0, 1) := by decide +kernel
theorem dL_plain_236 : decode cL_plain 236 = .ok (.iload_n 2, 1) := by decide +kernel
theorem dL_plain_237 : decode cL_plain 237 = .ok (.iload_n 3, 1) := by decide +kernel
theorem dL_plain_238 : decode cL_plain 238 = .ok (.i2c, 1) := by decide +kernel
theorem dL_plain_239 : decode cL_plain 239 = .ok (.iload 4, 2) := by decide +kernel
theorem dL_plain_241 : decode cL_plain 241 = .ok (.invokevirtual 81, 3) := by decide +kernel
theorem dL_plain_244 : decode cL_plain 244 = .ok (.ireturn, 1) := by decide +kernel
theorem dL_plain_245 : decode cL_plain 245 = .ok (.aload_n 0, 1) := by decide +kernel
theorem dL_plain_246 : decode cL_plain 246 = .ok (.iload_n 2, 1) := by decide +kernel
theorem dL_plain_247 : decode cL_plain 247 = .ok (.iload_n 3, 1) := by decide +kernel
theorem dL_plain_248 : decode cL_plain 248 = .ok (.invokevirtual 85, 3) := by decide +kernel
theorem dL_plain_251 : decode cL_plain 251 = .ok (.ireturn, 1) := by decide +kernel
theorem dL_plain_252 : decode cL_plain 252 = .ok (.aload_n 0, 1) := by decide +kernel
theorem dL_plain_253 : decode cL_plain 253 = .ok (.iload_n 2, 1) := by decide +kernel
theorem dL_plain_254 : decode cL_plain 254 = .ok (.iload_n 3, 1) := by decide +kernel
theorem dL_plain_255 : decode cL_plain 255 = .ok (.i2c, 1) := by decide +kernel
theorem dL_plain_256 : decode cL_plain 256 = .ok (.invokevirtual 88, 3) := by decide +kernel
theorem dL_plain_259 : decode cL_plain 259 = .ok (.ireturn, 1) := by decide +kernel
theorem dL_plain_260 : decode cL_plain 260 = .ok (.aload_n 0, 1) := by decide +kernel
theorem dL_plain_261 : decode cL_plain 261 = .ok (.iload_n 2, 1) := by decide +kernel
theorem dL_plain_262 : decode cL_plain 262 = .ok (.iload_n 3, 1) := by decide +kernel
theorem dL_plain_263 : decode cL_plain 263 = .ok (.invokevirtual 92, 3) := by decide +kernel
theorem dL_plain_266 : decode cL_plain 266 = .ok (.ireturn, 1) := by decide +kernel
theorem dL_deed_0 : decode cL_deed 0 = .ok (.aload_n 0, 1) := by decide +kernel
theorem dL_deed_1 : decode cL_deed 1 = .ok (.iload_n 1, 1) := by decide +kernel
theorem dL_deed_2 : decode cL_deed 2 = .ok (.iload_n 2, 1) := by decide +kernel
theorem dL_deed_3 : decode cL_deed 3 = .ok (.iload_n 3, 1) := by decide +kernel
theorem dL_deed_4 : decode cL_deed 4 = .ok (.iload 4, 2) := by decide +kernel
theorem dL_deed_6 : decode cL_deed 6 = .ok (.invokestatic 95, 3) := by decide +kernel
theorem dL_deed_9 : decode cL_deed 9 = .ok (.ireturn, 1) := by decide +kernel
theorem dL_deed_10 : decode cL_deed 10 = .ok (.astore 5, 2) := by decide +kernel
theorem dL_deed_12 : decode cL_deed 12 = .ok (.sipush (-2001), 3) := by decide +kernel
theorem dL_deed_15 : decode cL_deed 15 = .ok (.ireturn, 1) := by decide +kernel
theorem dL_deed_16 : decode cL_deed 16 = .ok (.astore 5, 2) := by decide +kernel
theorem dL_deed_18 : decode cL_deed 18 = .ok (.sipush (-2002), 3) := by decide +kernel
theorem dL_deed_21 : decode cL_deed 21 = .ok (.ireturn, 1) := by decide +kernel
theorem dL_deed_22 : decode cL_deed 22 = .ok (.astore 5, 2) := by decide +kernel
theorem dL_deed_24 : decode cL_deed 24 = .ok (.sipush (-2003), 3) := by decide +kernel
theorem dL_deed_27 : decode cL_deed 27 = .ok (.ireturn, 1) := by decide +kernel
theorem dL_deed_28 : decode cL_deed 28 = .ok (.astore 5, 2) := by decide +kernel
theorem dL_deed_30 : decode cL_deed 30 = .ok (.sipush (-2004), 3) := by decide +kernel
theorem dL_deed_33 : decode cL_deed 33 = .ok (.ireturn, 1) := by decide +kernel
theorem dL_deed_34 : decode cL_deed 34 = .ok (.astore 5, 2) := by decide +kernel
theorem dL_deed_36 : decode cL_deed 36 = .ok (.sipush (-2005), 3) := by decide +kernel
theorem dL_deed_39 : decode cL_deed 39 = .ok (.ireturn, 1) := by decide +kernel
theorem dL_asked_0 : decode cL_asked 0 = .ok (.iload_n 1, 1) := by decide +kernel
theorem dL_asked_1 : decode cL_asked 1 = .ok (.tableswitch 236 0 19 #[95, 101, 107, 113, 119, 125, 131, 138, 145, 152, 158, 164, 174, 180, 186, 193, 203, 213, 219, 226], 95) := by decide +kernel
theorem dL_asked_96 : decode cL_asked 96 = .ok (.aload_n 0, 1) := by decide +kernel
theorem dL_asked_97 : decode cL_asked 97 = .ok (.iload_n 2, 1) := by decide +kernel
theorem dL_asked_98 : decode cL_asked 98 = .ok (.invokevirtual 109, 3) := by decide +kernel
theorem dL_asked_101 : decode cL_asked 101 = .ok (.ireturn, 1) := by decide +kernel
theorem dL_asked_102 : decode cL_asked 102 = .ok (.aload_n 0, 1) := by decide +kernel
theorem dL_asked_103 : decode cL_asked 103 = .ok (.iload_n 2, 1) := by decide +kernel
theorem dL_asked_104 : decode cL_asked 104 = .ok (.invokevirtual 112, 3) := by decide +kernel
theorem dL_asked_107 : decode cL_asked 107 = .ok (.ireturn, 1) := by decide +kernel
theorem dL_asked_108 : decode cL_asked 108 = .ok (.aload_n 0, 1) := by decide +kernel
theorem dL_asked_109 : decode cL_asked 109 = .ok (.iload_n 2, 1) := by decide +kernel
theorem dL_asked_110 : decode cL_asked 110 = .ok (.invokevirtual 115, 3) := by decide +kernel
theorem dL_asked_113 : decode cL_asked 113 = .ok (.ireturn, 1) := by decide +kernel
theorem dL_asked_114 : decode cL_asked 114 = .ok (.aload_n 0, 1) := by decide +kernel
theorem dL_asked_115 : decode cL_asked 115 = .ok (.iload_n 2, 1) := by decide +kernel
theorem dL_asked_116 : decode cL_asked 116 = .ok (.invokevirtual 118, 3) := by decide +kernel
theorem dL_asked_119 : decode cL_asked 119 = .ok (.ireturn, 1) := by decide +kernel
theorem dL_asked_120 : decode cL_asked 120 = .ok (.aload_n 0, 1) := by decide +kernel
theorem dL_asked_121 : decode cL_asked 121 = .ok (.iload_n 2, 1) := by decide +kernel
theorem dL_asked_122 : decode cL_asked 122 = .ok (.invokevirtual 121, 3) := by decide +kernel
theorem dL_asked_125 : decode cL_asked 125 = .ok (.ireturn, 1) := by decide +kernel
theorem dL_asked_126 : decode cL_asked 126 = .ok (.aload_n 0, 1) := by decide +kernel
theorem dL_asked_127 : decode cL_asked 127 = .ok (.iload_n 2, 1) := by decide +kernel
theorem dL_asked_128 : decode cL_asked 128 = .ok (.invokevirtual 124, 3) := by decide +kernel
theorem dL_asked_131 : decode cL_asked 131 = .ok (.ireturn, 1) := by decide +kernel
theorem dL_asked_132 : decode cL_asked 132 = .ok (.aload_n 0, 1) := by decide +kernel
theorem dL_asked_133 : decode cL_asked 133 = .ok (.iload_n 2, 1) := by decide +kernel
theorem dL_asked_134 : decode cL_asked 134 = .ok (.iload_n 3, 1) := by decide +kernel
theorem dL_asked_135 : decode cL_asked 135 = .ok (.invokevirtual 127, 3) := by decide +kernel
theorem dL_asked_138 : decode cL_asked 138 = .ok (.ireturn, 1) := by decide +kernel
theorem dL_asked_139 : decode cL_asked 139 = .ok (.aload_n 0, 1) := by decide +kernel
theorem dL_asked_140 : decode cL_asked 140 = .ok (.iload_n 2, 1) := by decide +kernel
theorem dL_asked_141 : decode cL_asked 141 = .ok (.iload_n 3, 1) := by decide +kernel
theorem dL_asked_142 : decode cL_asked 142 = .ok (.invokevirtual 131, 3) := by decide +kernel
theorem dL_asked_145 : decode cL_asked 145 = .ok (.ireturn, 1) := by decide +kernel
theorem dL_asked_146 : decode cL_asked 146 = .ok (.aload_n 0, 1) := by decide +kernel
theorem dL_asked_147 : decode cL_asked 147 = .ok (.iload_n 2, 1) := by decide +kernel
theorem dL_asked_148 : decode cL_asked 148 = .ok (.iload_n 3, 1) := by decide +kernel
theorem dL_asked_149 : decode cL_asked 149 = .ok (.invokevirtual 134, 3) := by decide +kernel
theorem dL_asked_152 : decode cL_asked 152 = .ok (.ireturn, 1) := by decide +kernel
theorem dL_asked_153 : decode cL_asked 153 = .ok (.aload_n 0, 1) := by decide +kernel
theorem dL_asked_154 : decode cL_asked 154 = .ok (.iload_n 2, 1) := by decide +kernel
theorem dL_asked_155 : decode cL_asked 155 = .ok (.invokevirtual 137, 3) := by decide +kernel
theorem dL_asked_158 : decode cL_asked 158 = .ok (.ireturn, 1) := by decide +kernel
theorem dL_asked_159 : decode cL_asked 159 = .ok (.aload_n 0, 1) := by decide +kernel
theorem dL_asked_160 : decode cL_asked 160 = .ok (.iload_n 2, 1) := by decide +kernel
theorem dL_asked_161 : decode cL_asked 161 = .ok (.invokevirtual 140, 3) := by decide +kernel
theorem dL_asked_164 : decode cL_asked 164 = .ok (.ireturn, 1) := by decide +kernel
theorem dL_asked_165 : decode cL_asked 165 = .ok (.aload_n 0, 1) := by decide +kernel
theorem dL_asked_166 : decode cL_asked 166 = .ok (.iload_n 2, 1) := by decide +kernel
theorem dL_asked_167 : decode cL_asked 167 = .ok (.iload_n 3, 1) := by decide +kernel
theorem dL_asked_168 : decode cL_asked 168 = .ok (.invokevirtual 143, 3) := by decide +kernel
theorem dL_asked_171 : decode cL_asked 171 = .ok (.invokestatic 147, 3) := by decide +kernel
theorem dL_asked_174 : decode cL_asked 174 = .ok (.ireturn, 1) := by decide +kernel
theorem dL_asked_175 : decode cL_asked 175 = .ok (.aload_n 0, 1) := by decide +kernel
theorem dL_asked_176 : decode cL_asked 176 = .ok (.iload_n 2, 1) := by decide +kernel
theorem dL_asked_177 : decode cL_asked 177 = .ok (.invokevirtual 151, 3) := by decide +kernel
theorem dL_asked_180 : decode cL_asked 180 = .ok (.ireturn, 1) := by decide +kernel
theorem dL_asked_181 : decode cL_asked 181 = .ok (.aload_n 0, 1) := by decide +kernel
theorem dL_asked_182 : decode cL_asked 182 = .ok (.iload_n 2, 1) := by decide +kernel
theorem dL_asked_183 : decode cL_asked 183 = .ok (.invokevirtual 154, 3) := by decide +kernel
theorem dL_asked_186 : decode cL_asked 186 = .ok (.ireturn, 1) := by decide +kernel
theorem dL_asked_187 : decode cL_asked 187 = .ok (.aload_n 0, 1) := by decide +kernel
theorem dL_asked_188 : decode cL_asked 188 = .ok (.iload_n 2, 1) := by decide +kernel
theorem dL_asked_189 : decode cL_asked 189 = .ok (.iload_n 3, 1) := by decide +kernel
theorem dL_asked_190 : decode cL_asked 190 = .ok (.invokevirtual 157, 3) := by decide +kernel
theorem dL_asked_193 : decode cL_asked 193 = .ok (.ireturn, 1) := by decide +kernel
theorem dL_asked_194 : decode cL_asked 194 = .ok (.aload_n 0, 1) := by decide +kernel
theorem dL_asked_195 : decode cL_asked 195 = .ok (.iload_n 2, 1) := by decide +kernel
theorem dL_asked_196 : decode cL_asked 196 = .ok (.iload_n 3, 1) := by decide +kernel
theorem dL_asked_197 : decode cL_asked 197 = .ok (.invokevirtual 160, 3) := by decide +kernel
theorem dL_asked_200 : decode cL_asked 200 = .ok (.invokestatic 147, 3) := by decide +kernel
theorem dL_asked_203 : decode cL_asked 203 = .ok (.ireturn, 1) := by decide +kernel
theorem dL_asked_204 : decode cL_asked 204 = .ok (.aload_n 0, 1) := by decide +kernel
theorem dL_asked_205 : decode cL_asked 205 = .ok (.iload_n 2, 1) := by decide +kernel
theorem dL_asked_206 : decode cL_asked 206 = .ok (.iload_n 3, 1) := by decide +kernel
theorem dL_asked_207 : decode cL_asked 207 = .ok (.invokevirtual 163, 3) := by decide +kernel
theorem dL_asked_210 : decode cL_asked 210 = .ok (.invokestatic 147, 3) := by decide +kernel
theorem dL_asked_213 : decode cL_asked 213 = .ok (.ireturn, 1) := by decide +kernel
theorem dL_asked_214 : decode cL_asked 214 = .ok (.aload_n 0, 1) := by decide +kernel
theorem dL_asked_215 : decode cL_asked 215 = .ok (.iload_n 2, 1) := by decide +kernel
theorem dL_asked_216 : decode cL_asked 216 = .ok (.invokevirtual 166, 3) := by decide +kernel
theorem dL_asked_219 : decode cL_asked 219 = .ok (.ireturn, 1) := by decide +kernel
theorem dL_asked_220 : decode cL_asked 220 = .ok (.aload_n 0, 1) := by decide +kernel
theorem dL_asked_221 : decode cL_asked 221 = .ok (.iload_n 2, 1) := by decide +kernel
theorem dL_asked_222 : decode cL_asked 222 = .ok (.iload_n 3, 1) := by decide +kernel
theorem dL_asked_223 : decode cL_asked 223 = .ok (.invokevirtual 169, 3) := by decide +kernel
theorem dL_asked_226 : decode cL_asked 226 = .ok (.ireturn, 1) := by decide +kernel
theorem dL_asked_227 : decode cL_asked 227 = .ok (.aload_n 0, 1) := by decide +kernel
theorem dL_asked_228 : decode cL_asked 228 = .ok (.iload_n 2, 1) := by decide +kernel
theorem dL_asked_229 : decode cL_asked 229 = .ok (.iload_n 3, 1) := by decide +kernel
theorem dL_asked_230 : decode cL_asked 230 = .ok (.invokevirtual 172, 3) := by decide +kernel
theorem dL_asked_233 : decode cL_asked 233 = .ok (.invokestatic 147, 3) := by decide +kernel
theorem dL_asked_236 : decode cL_asked 236 = .ok (.ireturn, 1) := by decide +kernel
theorem dL_asked_237 : decode cL_asked 237 = .ok (.aload_n 0, 1) := by decide +kernel
theorem dL_asked_238 : decode cL_asked 238 = .ok (.iload_n 2, 1) := by decide +kernel
theorem dL_asked_239 : decode cL_asked 239 = .ok (.invokevirtual 175, 3) := by decide +kernel
theorem dL_asked_242 : decode cL_asked 242 = .ok (.ireturn, 1) := by decide +kernel
theorem dL_ask_0 : decode cL_ask 0 = .ok (.aload_n 0, 1) := by decide +kernel
theorem dL_ask_1 : decode cL_ask 1 = .ok (.iload_n 1, 1) := by decide +kernel
theorem dL_ask_2 : decode cL_ask 2 = .ok (.iload_n 2, 1) := by decide +kernel
theorem dL_ask_3 : decode cL_ask 3 = .ok (.iload_n 3, 1) := by decide +kernel
theorem dL_ask_4 : decode cL_ask 4 = .ok (.invokestatic 178, 3) := by decide +kernel
theorem dL_ask_7 : decode cL_ask 7 = .ok (.ireturn, 1) := by decide +kernel
theorem dL_ask_8 : decode cL_ask 8 = .ok (.astore 4, 2) := by decide +kernel
theorem dL_ask_10 : decode cL_ask 10 = .ok (.sipush (-2001), 3) := by decide +kernel
theorem dL_ask_13 : decode cL_ask 13 = .ok (.ireturn, 1) := by decide +kernel
theorem dL_ask_14 : decode cL_ask 14 = .ok (.astore 4, 2) := by decide +kernel
theorem dL_ask_16 : decode cL_ask 16 = .ok (.sipush (-2003), 3) := by decide +kernel
theorem dL_ask_19 : decode cL_ask 19 = .ok (.ireturn, 1) := by decide +kernel
theorem dL_ask_20 : decode cL_ask 20 = .ok (.astore 4, 2) := by decide +kernel
theorem dL_ask_22 : decode cL_ask 22 = .ok (.sipush (-2005), 3) := by decide +kernel
theorem dL_ask_25 : decode cL_ask 25 = .ok (.ireturn, 1) := by decide +kernel
theorem dL_ask_26 : decode cL_ask 26 = .ok (.astore 4, 2) := by decide +kernel
theorem dL_ask_28 : decode cL_ask 28 = .ok (.sipush (-2006), 3) := by decide +kernel
theorem dL_ask_31 : decode cL_ask 31 = .ok (.ireturn, 1) := by decide +kernel
theorem dL_order_0 : decode cL_order 0 = .ok (.iload_n 0, 1) := by decide +kernel
theorem dL_order_1 : decode cL_order 1 = .ok (.ifCond .ne 8, 3) := by decide +kernel
theorem dL_order_4 : decode cL_order 4 = .ok (.bipush 115, 2) := by decide +kernel
theorem dL_order_6 : decode cL_order 6 = .ok (.goto 25, 3) := by decide +kernel
theorem dL_order_9 : decode cL_order 9 = .ok (.iload_n 0, 1) := by decide +kernel
theorem dL_order_10 : decode cL_order 10 = .ok (.iconst 1, 1) := by decide +kernel
theorem dL_order_11 : decode cL_order 11 = .ok (.if_icmp .ne 8, 3) := by decide +kernel
theorem dL_order_14 : decode cL_order 14 = .ok (.bipush 114, 2) := by decide +kernel
theorem dL_order_16 : decode cL_order 16 = .ok (.goto 15, 3) := by decide +kernel
theorem dL_order_19 : decode cL_order 19 = .ok (.iload_n 0, 1) := by decide +kernel
theorem dL_order_20 : decode cL_order 20 = .ok (.iconst 2, 1) := by decide +kernel
theorem dL_order_21 : decode cL_order 21 = .ok (.if_icmp .ne 8, 3) := by decide +kernel
theorem dL_order_24 : decode cL_order 24 = .ok (.bipush 112, 2) := by decide +kernel
theorem dL_order_26 : decode cL_order 26 = .ok (.goto 5, 3) := by decide +kernel
theorem dL_order_29 : decode cL_order 29 = .ok (.bipush 110, 2) := by decide +kernel
theorem dL_order_31 : decode cL_order 31 = .ok (.ireturn, 1) := by decide +kernel
theorem dL_rule_0 : decode cL_rule 0 = .ok (.aload_n 0, 1) := by decide +kernel
theorem dL_rule_1 : decode cL_rule 1 = .ok (.bipush 11, 2) := by decide +kernel
theorem dL_rule_3 : decode cL_rule 3 = .ok (.iload_n 2, 1) := by decide +kernel
theorem dL_rule_4 : decode cL_rule 4 = .ok (.iadd, 1) := by decide +kernel
theorem dL_rule_5 : decode cL_rule 5 = .ok (.iload_n 3, 1) := by decide +kernel
theorem dL_rule_6 : decode cL_rule 6 = .ok (.iload 4, 2) := by decide +kernel
theorem dL_rule_8 : decode cL_rule 8 = .ok (.iconst 0, 1) := by decide +kernel
theorem dL_rule_9 : decode cL_rule 9 = .ok (.invokestatic 184, 3) := by decide +kernel
theorem dL_rule_12 : decode cL_rule 12 = .ok (.istore 5, 2) := by decide +kernel
theorem dL_rule_14 : decode cL_rule 14 = .ok (.iload 5, 2) := by decide +kernel
theorem dL_rule_16 : decode cL_rule 16 = .ok (.ifCond .lt 44, 3) := by decide +kernel
theorem dL_rule_19 : decode cL_rule 19 = .ok (.aload_n 1, 1) := by decide +kernel
theorem dL_rule_20 : decode cL_rule 20 = .ok (.bipush 10, 2) := by decide +kernel
theorem dL_rule_22 : decode cL_rule 22 = .ok (.iconst 3, 1) := by decide +kernel
theorem dL_rule_23 : decode cL_rule 23 = .ok (.aload_n 1, 1) := by decide +kernel
theorem dL_rule_24 : decode cL_rule 24 = .ok (.iconst 2, 1) := by decide +kernel
theorem dL_rule_25 : decode cL_rule 25 = .ok (.iaload, 1) := by decide +kernel
theorem dL_rule_26 : decode cL_rule 26 = .ok (.imul, 1) := by decide +kernel
theorem dL_rule_27 : decode cL_rule 27 = .ok (.iadd, 1) := by decide +kernel
theorem dL_rule_28 : decode cL_rule 28 = .ok (.iload_n 2, 1) := by decide +kernel
theorem dL_rule_29 : decode cL_rule 29 = .ok (.iastore, 1) := by decide +kernel
theorem dL_rule_30 : decode cL_rule 30 = .ok (.aload_n 1, 1) := by decide +kernel
theorem dL_rule_31 : decode cL_rule 31 = .ok (.bipush 11, 2) := by decide +kernel
theorem dL_rule_33 : decode cL_rule 33 = .ok (.iconst 3, 1) := by decide +kernel
theorem dL_rule_34 : decode cL_rule 34 = .ok (.aload_n 1, 1) := by decide +kernel
theorem dL_rule_35 : decode cL_rule 35 = .ok (.iconst 2, 1) := by decide +kernel
theorem dL_rule_36 : decode cL_rule 36 = .ok (.iaload, 1) := by decide +kernel
theorem dL_rule_37 : decode cL_rule 37 = .ok (.imul, 1) := by decide +kernel
theorem dL_rule_38 : decode cL_rule 38 = .ok (.iadd, 1) := by decide +kernel
theorem dL_rule_39 : decode cL_rule 39 = .ok (.iload_n 3, 1) := by decide +kernel
theorem dL_rule_40 : decode cL_rule 40 = .ok (.iastore, 1) := by decide +kernel
theorem dL_rule_41 : decode cL_rule 41 = .ok (.aload_n 1, 1) := by decide +kernel
theorem dL_rule_42 : decode cL_rule 42 = .ok (.bipush 12, 2) := by decide +kernel
theorem dL_rule_44 : decode cL_rule 44 = .ok (.iconst 3, 1) := by decide +kernel
theorem dL_rule_45 : decode cL_rule 45 = .ok (.aload_n 1, 1) := by decide +kernel
theorem dL_rule_46 : decode cL_rule 46 = .ok (.iconst 2, 1) := by decide +kernel
theorem dL_rule_47 : decode cL_rule 47 = .ok (.iaload, 1) := by decide +kernel
theorem dL_rule_48 : decode cL_rule 48 = .ok (.imul, 1) := by decide +kernel
theorem dL_rule_49 : decode cL_rule 49 = .ok (.iadd, 1) := by decide +kernel
theorem dL_rule_50 : decode cL_rule 50 = .ok (.iload 4, 2) := by decide +kernel
theorem dL_rule_52 : decode cL_rule 52 = .ok (.iastore, 1) := by decide +kernel
theorem dL_rule_53 : decode cL_rule 53 = .ok (.aload_n 1, 1) := by decide +kernel
theorem dL_rule_54 : decode cL_rule 54 = .ok (.iconst 2, 1) := by decide +kernel
theorem dL_rule_55 : decode cL_rule 55 = .ok (.dup2, 1) := by decide +kernel
theorem dL_rule_56 : decode cL_rule 56 = .ok (.iaload, 1) := by decide +kernel
theorem dL_rule_57 : decode cL_rule 57 = .ok (.iconst 1, 1) := by decide +kernel
theorem dL_rule_58 : decode cL_rule 58 = .ok (.iadd, 1) := by decide +kernel
theorem dL_rule_59 : decode cL_rule 59 = .ok (.iastore, 1) := by decide +kernel
theorem dL_rule_60 : decode cL_rule 60 = .ok (.iload 5, 2) := by decide +kernel
theorem dL_rule_62 : decode cL_rule 62 = .ok (.ireturn, 1) := by decide +kernel
theorem dL_adds_0 : decode cL_adds 0 = .ok (.iconst 1, 1) := by decide +kernel
theorem dL_adds_1 : decode cL_adds 1 = .ok (.aload_n 1, 1) := by decide +kernel
theorem dL_adds_2 : decode cL_adds 2 = .ok (.iconst 2, 1) := by decide +kernel
theorem dL_adds_3 : decode cL_adds 3 = .ok (.iaload, 1) := by decide +kernel
theorem dL_adds_4 : decode cL_adds 4 = .ok (.invokestatic 187, 3) := by decide +kernel
theorem dL_adds_7 : decode cL_adds 7 = .ok (.istore 4, 2) := by decide +kernel
theorem dL_adds_9 : decode cL_adds 9 = .ok (.aload_n 2, 1) := by decide +kernel
theorem dL_adds_10 : decode cL_adds 10 = .ok (.iload_n 3, 1) := by decide +kernel
theorem dL_adds_11 : decode cL_adds 11 = .ok (.bipush 12, 2) := by decide +kernel
theorem dL_adds_13 : decode cL_adds 13 = .ok (.invokestatic 192, 3) := by decide +kernel
theorem dL_adds_16 : decode cL_adds 16 = .ok (.tableswitch 298 0 9 #[56, 86, 113, 139, 169, 196, 196, 226, 226, 262], 56) := by decide +kernel
theorem dL_adds_72 : decode cL_adds 72 = .ok (.aload_n 0, 1) := by decide +kernel
theorem dL_adds_73 : decode cL_adds 73 = .ok (.aload_n 1, 1) := by decide +kernel
theorem dL_adds_74 : decode cL_adds 74 = .ok (.iconst 0, 1) := by decide +kernel
theorem dL_adds_75 : decode cL_adds 75 = .ok (.aload_n 2, 1) := by decide +kernel
theorem dL_adds_76 : decode cL_adds 76 = .ok (.iload_n 3, 1) := by decide +kernel
theorem dL_adds_77 : decode cL_adds 77 = .ok (.iconst 1, 1) := by decide +kernel
theorem dL_adds_78 : decode cL_adds 78 = .ok (.iadd, 1) := by decide +kernel
theorem dL_adds_79 : decode cL_adds 79 = .ok (.aload_n 1, 1) := by decide +kernel
theorem dL_adds_80 : decode cL_adds 80 = .ok (.iconst 1, 1) := by decide +kernel
theorem dL_adds_81 : decode cL_adds 81 = .ok (.iaload, 1) := by decide +kernel
theorem dL_adds_82 : decode cL_adds 82 = .ok (.iconst 1, 1) := by decide +kernel
theorem dL_adds_83 : decode cL_adds 83 = .ok (.iadd, 1) := by decide +kernel
theorem dL_adds_84 : decode cL_adds 84 = .ok (.invokestatic 192, 3) := by decide +kernel
theorem dL_adds_87 : decode cL_adds 87 = .ok (.iconst 0, 1) := by decide +kernel
theorem dL_adds_88 : decode cL_adds 88 = .ok (.invokestatic 196, 3) := by decide +kernel
theorem dL_adds_91 : decode cL_adds 91 = .ok (.bipush 40, 2) := by decide +kernel
theorem dL_adds_93 : decode cL_adds 93 = .ok (.if_icmp .ge 7, 3) := by decide +kernel
theorem dL_adds_96 : decode cL_adds 96 = .ok (.iconst 1, 1) := by decide +kernel
theorem dL_adds_97 : decode cL_adds 97 = .ok (.goto 4, 3) := by decide +kernel
theorem dL_adds_100 : decode cL_adds 100 = .ok (.iconst 0, 1) := by decide +kernel
theorem dL_adds_101 : decode cL_adds 101 = .ok (.ireturn, 1) := by decide +kernel
theorem dL_adds_102 : decode cL_adds 102 = .ok (.aload_n 0, 1) := by decide +kernel
theorem dL_adds_103 : decode cL_adds 103 = .ok (.aload_n 1, 1) := by decide +kernel
theorem dL_adds_104 : decode cL_adds 104 = .ok (.iconst 1, 1) := by decide +kernel
theorem dL_adds_105 : decode cL_adds 105 = .ok (.aload_n 2, 1) := by decide +kernel
theorem dL_adds_106 : decode cL_adds 106 = .ok (.iload_n 3, 1) := by decide +kernel
theorem dL_adds_107 : decode cL_adds 107 = .ok (.iconst 1, 1) := by decide +kernel
theorem dL_adds_108 : decode cL_adds 108 = .ok (.iadd, 1) := by decide +kernel
theorem dL_adds_109 : decode cL_adds 109 = .ok (.bipush 7, 2) := by decide +kernel
theorem dL_adds_111 : decode cL_adds 111 = .ok (.invokestatic 192, 3) := by decide +kernel
theorem dL_adds_114 : decode cL_adds 114 = .ok (.iconst 0, 1) := by decide +kernel
theorem dL_adds_115 : decode cL_adds 115 = .ok (.invokestatic 196, 3) := by decide +kernel
theorem dL_adds_118 : decode cL_adds 118 = .ok (.bipush 40, 2) := by decide +kernel
theorem dL_adds_120 : decode cL_adds 120 = .ok (.if_icmp .ge 7, 3) := by decide +kernel
theorem dL_adds_123 : decode cL_adds 123 = .ok (.iconst 1, 1) := by decide +kernel
theorem dL_adds_124 : decode cL_adds 124 = .ok (.goto 4, 3) := by decide +kernel
theorem dL_adds_127 : decode cL_adds 127 = .ok (.iconst 0, 1) := by decide +kernel
theorem dL_adds_128 : decode cL_adds 128 = .ok (.ireturn, 1) := by decide +kernel
theorem dL_adds_129 : decode cL_adds 129 = .ok (.aload_n 0, 1) := by decide +kernel
theorem dL_adds_130 : decode cL_adds 130 = .ok (.aload_n 1, 1) := by decide +kernel
theorem dL_adds_131 : decode cL_adds 131 = .ok (.iconst 2, 1) := by decide +kernel
theorem dL_adds_132 : decode cL_adds 132 = .ok (.aload_n 2, 1) := by decide +kernel
theorem dL_adds_133 : decode cL_adds 133 = .ok (.iload_n 3, 1) := by decide +kernel
theorem dL_adds_134 : decode cL_adds 134 = .ok (.iconst 1, 1) := by decide +kernel
theorem dL_adds_135 : decode cL_adds 135 = .ok (.iadd, 1) := by decide +kernel
theorem dL_adds_136 : decode cL_adds 136 = .ok (.iconst 4, 1) := by decide +kernel
theorem dL_adds_137 : decode cL_adds 137 = .ok (.invokestatic 192, 3) := by decide +kernel
theorem dL_adds_140 : decode cL_adds 140 = .ok (.iconst 0, 1) := by decide +kernel
theorem dL_adds_141 : decode cL_adds 141 = .ok (.invokestatic 196, 3) := by decide +kernel
theorem dL_adds_144 : decode cL_adds 144 = .ok (.bipush 40, 2) := by decide +kernel
theorem dL_adds_146 : decode cL_adds 146 = .ok (.if_icmp .ge 7, 3) := by decide +kernel
theorem dL_adds_149 : decode cL_adds 149 = .ok (.iconst 1, 1) := by decide +kernel
theorem dL_adds_150 : decode cL_adds 150 = .ok (.goto 4, 3) := by decide +kernel
theorem dL_adds_153 : decode cL_adds 153 = .ok (.iconst 0, 1) := by decide +kernel
theorem dL_adds_154 : decode cL_adds 154 = .ok (.ireturn, 1) := by decide +kernel
theorem dL_adds_155 : decode cL_adds 155 = .ok (.aload_n 0, 1) := by decide +kernel
theorem dL_adds_156 : decode cL_adds 156 = .ok (.aload_n 1, 1) := by decide +kernel
theorem dL_adds_157 : decode cL_adds 157 = .ok (.iconst 3, 1) := by decide +kernel
theorem dL_adds_158 : decode cL_adds 158 = .ok (.iconst 1, 1) := by decide +kernel
theorem dL_adds_159 : decode cL_adds 159 = .ok (.aload_n 2, 1) := by decide +kernel
theorem dL_adds_160 : decode cL_adds 160 = .ok (.iload_n 3, 1) := by decide +kernel
theorem dL_adds_161 : decode cL_adds 161 = .ok (.iconst 1, 1) := by decide +kernel
theorem dL_adds_162 : decode cL_adds 162 = .ok (.iadd, 1) := by decide +kernel
theorem dL_adds_163 : decode cL_adds 163 = .ok (.sipush 400, 3) := by decide +kernel
theorem dL_adds_166 : decode cL_adds 166 = .ok (.invokestatic 192, 3) := by decide +kernel
theorem dL_adds_169 : decode cL_adds 169 = .ok (.iadd, 1) := by decide +kernel
theorem dL_adds_170 : decode cL_adds 170 = .ok (.iconst 0, 1) := by decide +kernel
theorem dL_adds_171 : decode cL_adds 171 = .ok (.invokestatic 196, 3) := by decide +kernel
theorem dL_adds_174 : decode cL_adds 174 = .ok (.bipush 40, 2) := by decide +kernel
theorem dL_adds_176 : decode cL_adds 176 = .ok (.if_icmp .ge 7, 3) := by decide +kernel
theorem dL_adds_179 : decode cL_adds 179 = .ok (.iconst 1, 1) := by decide +kernel
theorem dL_adds_180 : decode cL_adds 180 = .ok (.goto 4, 3) := by decide +kernel
theorem dL_adds_183 : decode cL_adds 183 = .ok (.iconst 0, 1) := by decide +kernel
theorem dL_adds_184 : decode cL_adds 184 = .ok (.ireturn, 1) := by decide +kernel
theorem dL_adds_185 : decode cL_adds 185 = .ok (.aload_n 0, 1) := by decide +kernel
theorem dL_adds_186 : decode cL_adds 186 = .ok (.aload_n 1, 1) := by decide +kernel
theorem dL_adds_187 : decode cL_adds 187 = .ok (.iconst 4, 1) := by decide +kernel
theorem dL_adds_188 : decode cL_adds 188 = .ok (.aload_n 2, 1) := by decide +kernel
theorem dL_adds_189 : decode cL_adds 189 = .ok (.iload_n 3, 1) := by decide +kernel
theorem dL_adds_190 : decode cL_adds 190 = .ok (.iconst 1, 1) := by decide +kernel
theorem dL_adds_191 : decode cL_adds 191 = .ok (.iadd, 1) := by decide +kernel
theorem dL_adds_192 : decode cL_adds 192 = .ok (.bipush 30, 2) := by decide +kernel
theorem dL_adds_194 : decode cL_adds 194 = .ok (.invokestatic 192, 3) := by decide +kernel
theorem dL_adds_197 : decode cL_adds 197 = .ok (.iconst 0, 1) := by decide +kernel
theorem dL_adds_198 : decode cL_adds 198 = .ok (.invokestatic 196, 3) := by decide +kernel
theorem dL_adds_201 : decode cL_adds 201 = .ok (.bipush 40, 2) := by decide +kernel
theorem dL_adds_203 : decode cL_adds 203 = .ok (.if_icmp .ge 7, 3) := by decide +kernel
theorem dL_adds_206 : decode cL_adds 206 = .ok (.iconst 1, 1) := by decide +kernel
theorem dL_adds_207 : decode cL_adds 207 = .ok (.goto 4, 3) := by decide +kernel
theorem dL_adds_210 : decode cL_adds 210 = .ok (.iconst 0, 1) := by decide +kernel
theorem dL_adds_211 : decode cL_adds 211 = .ok (.ireturn, 1) := by decide +kernel
theorem dL_adds_212 : decode cL_adds 212 = .ok (.aload_n 0, 1) := by decide +kernel
theorem dL_adds_213 : decode cL_adds 213 = .ok (.aload_n 1, 1) := by decide +kernel
theorem dL_adds_214 : decode cL_adds 214 = .ok (.iconst 5, 1) := by decide +kernel
theorem dL_adds_215 : decode cL_adds 215 = .ok (.aload_n 2, 1) := by decide +kernel
theorem dL_adds_216 : decode cL_adds 216 = .ok (.iload_n 3, 1) := by decide +kernel
theorem dL_adds_217 : decode cL_adds 217 = .ok (.iconst 1, 1) := by decide +kernel
theorem dL_adds_218 : decode cL_adds 218 = .ok (.iadd, 1) := by decide +kernel
theorem dL_adds_219 : decode cL_adds 219 = .ok (.aload_n 1, 1) := by decide +kernel
theorem dL_adds_220 : decode cL_adds 220 = .ok (.iconst 3, 1) := by decide +kernel
theorem dL_adds_221 : decode cL_adds 221 = .ok (.iaload, 1) := by decide +kernel
theorem dL_adds_222 : decode cL_adds 222 = .ok (.iconst 1, 1) := by decide +kernel
theorem dL_adds_223 : decode cL_adds 223 = .ok (.iadd, 1) := by decide +kernel
theorem dL_adds_224 : decode cL_adds 224 = .ok (.invokestatic 192, 3) := by decide +kernel
theorem dL_adds_227 : decode cL_adds 227 = .ok (.iconst 0, 1) := by decide +kernel
theorem dL_adds_228 : decode cL_adds 228 = .ok (.invokestatic 196, 3) := by decide +kernel
theorem dL_adds_231 : decode cL_adds 231 = .ok (.bipush 40, 2) := by decide +kernel
theorem dL_adds_233 : decode cL_adds 233 = .ok (.if_icmp .ge 7, 3) := by decide +kernel
theorem dL_adds_236 : decode cL_adds 236 = .ok (.iconst 1, 1) := by decide +kernel
theorem dL_adds_237 : decode cL_adds 237 = .ok (.goto 4, 3) := by decide +kernel
theorem dL_adds_240 : decode cL_adds 240 = .ok (.iconst 0, 1) := by decide +kernel
theorem dL_adds_241 : decode cL_adds 241 = .ok (.ireturn, 1) := by decide +kernel
theorem dL_adds_242 : decode cL_adds 242 = .ok (.aload_n 0, 1) := by decide +kernel
theorem dL_adds_243 : decode cL_adds 243 = .ok (.aload_n 1, 1) := by decide +kernel
theorem dL_adds_244 : decode cL_adds 244 = .ok (.bipush 6, 2) := by decide +kernel
theorem dL_adds_246 : decode cL_adds 246 = .ok (.aload_n 2, 1) := by decide +kernel
theorem dL_adds_247 : decode cL_adds 247 = .ok (.iload_n 3, 1) := by decide +kernel
theorem dL_adds_248 : decode cL_adds 248 = .ok (.iconst 1, 1) := by decide +kernel
theorem dL_adds_249 : decode cL_adds 249 = .ok (.iadd, 1) := by decide +kernel
theorem dL_adds_250 : decode cL_adds 250 = .ok (.iload 4, 2) := by decide +kernel
theorem dL_adds_252 : decode cL_adds 252 = .ok (.invokestatic 192, 3) := by decide +kernel
theorem dL_adds_255 : decode cL_adds 255 = .ok (.aload_n 2, 1) := by decide +kernel
theorem dL_adds_256 : decode cL_adds 256 = .ok (.iload_n 3, 1) := by decide +kernel
theorem dL_adds_257 : decode cL_adds 257 = .ok (.iconst 2, 1) := by decide +kernel
theorem dL_adds_258 : decode cL_adds 258 = .ok (.iadd, 1) := by decide +kernel
theorem dL_adds_259 : decode cL_adds 259 = .ok (.iload 4, 2) := by decide +kernel
theorem dL_adds_261 : decode cL_adds 261 = .ok (.invokestatic 192, 3) := by decide +kernel
theorem dL_adds_264 : decode cL_adds 264 = .ok (.invokestatic 196, 3) := by decide +kernel
theorem dL_adds_267 : decode cL_adds 267 = .ok (.bipush 40, 2) := by decide +kernel
theorem dL_adds_269 : decode cL_adds 269 = .ok (.if_icmp .ge 7, 3) := by decide +kernel
theorem dL_adds_272 : decode cL_adds 272 = .ok (.iconst 1, 1) := by decide +kernel
theorem dL_adds_273 : decode cL_adds 273 = .ok (.goto 4, 3) := by decide +kernel
theorem dL_adds_276 : decode cL_adds 276 = .ok (.iconst 0, 1) := by decide +kernel
theorem dL_adds_277 : decode cL_adds 277 = .ok (.ireturn, 1) := by decide +kernel
theorem dL_adds_278 : decode cL_adds 278 = .ok (.aload_n 0, 1) := by decide +kernel
theorem dL_adds_279 : decode cL_adds 279 = .ok (.aload_n 1, 1) := by decide +kernel
theorem dL_adds_280 : decode cL_adds 280 = .ok (.bipush 7, 2) := by decide +kernel
theorem dL_adds_282 : decode cL_adds 282 = .ok (.aload_n 2, 1) := by decide +kernel
theorem dL_adds_283 : decode cL_adds 283 = .ok (.iload_n 3, 1) := by decide +kernel
theorem dL_adds_284 : decode cL_adds 284 = .ok (.iconst 1, 1) := by decide +kernel
theorem dL_adds_285 : decode cL_adds 285 = .ok (.iadd, 1) := by decide +kernel
theorem dL_adds_286 : decode cL_adds 286 = .ok (.iload 4, 2) := by decide +kernel
theorem dL_adds_288 : decode cL_adds 288 = .ok (.invokestatic 192, 3) := by decide +kernel
theorem dL_adds_291 : decode cL_adds 291 = .ok (.aload_n 2, 1) := by decide +kernel
theorem dL_adds_292 : decode cL_adds 292 = .ok (.iload_n 3, 1) := by decide +kernel
theorem dL_adds_293 : decode cL_adds 293 = .ok (.iconst 2, 1) := by decide +kernel
theorem dL_adds_294 : decode cL_adds 294 = .ok (.iadd, 1) := by decide +kernel
theorem dL_adds_295 : decode cL_adds 295 = .ok (.iload 4, 2) := by decide +kernel
theorem dL_adds_297 : decode cL_adds 297 = .ok (.invokestatic 192, 3) := by decide +kernel
theorem dL_adds_300 : decode cL_adds 300 = .ok (.invokestatic 196, 3) := by decide +kernel
theorem dL_adds_303 : decode cL_adds 303 = .ok (.bipush 40, 2) := by decide +kernel
theorem dL_adds_305 : decode cL_adds 305 = .ok (.if_icmp .ge 7, 3) := by decide +kernel
theorem dL_adds_308 : decode cL_adds 308 = .ok (.iconst 1, 1) := by decide +kernel
theorem dL_adds_309 : decode cL_adds 309 = .ok (.goto 4, 3) := by decide +kernel
theorem dL_adds_312 : decode cL_adds 312 = .ok (.iconst 0, 1) := by decide +kernel
theorem dL_adds_313 : decode cL_adds 313 = .ok (.ireturn, 1) := by decide +kernel
theorem dL_adds_314 : decode cL_adds 314 = .ok (.aload_n 0, 1) := by decide +kernel
theorem dL_adds_315 : decode cL_adds 315 = .ok (.aload_n 1, 1) := by decide +kernel
theorem dL_adds_316 : decode cL_adds 316 = .ok (.bipush 8, 2) := by decide +kernel
theorem dL_adds_318 : decode cL_adds 318 = .ok (.aload_n 2, 1) := by decide +kernel
theorem dL_adds_319 : decode cL_adds 319 = .ok (.iload_n 3, 1) := by decide +kernel
theorem dL_adds_320 : decode cL_adds 320 = .ok (.iconst 1, 1) := by decide +kernel
theorem dL_adds_321 : decode cL_adds 321 = .ok (.iadd, 1) := by decide +kernel
theorem dL_adds_322 : decode cL_adds 322 = .ok (.iload 4, 2) := by decide +kernel
theorem dL_adds_324 : decode cL_adds 324 = .ok (.invokestatic 192, 3) := by decide +kernel
theorem dL_adds_327 : decode cL_adds 327 = .ok (.iconst 0, 1) := by decide +kernel
theorem dL_adds_328 : decode cL_adds 328 = .ok (.invokestatic 196, 3) := by decide +kernel
theorem dL_adds_331 : decode cL_adds 331 = .ok (.bipush 40, 2) := by decide +kernel
theorem dL_adds_333 : decode cL_adds 333 = .ok (.if_icmp .ge 7, 3) := by decide +kernel
theorem dL_adds_336 : decode cL_adds 336 = .ok (.iconst 1, 1) := by decide +kernel
theorem dL_adds_337 : decode cL_adds 337 = .ok (.goto 4, 3) := by decide +kernel
theorem dL_adds_340 : decode cL_adds 340 = .ok (.iconst 0, 1) := by decide +kernel
theorem dL_adds_341 : decode cL_adds 341 = .ok (.ireturn, 1) := by decide +kernel
theorem dL_lists_0 : decode cL_lists 0 = .ok (.aload_n 2, 1) := by decide +kernel
theorem dL_lists_1 : decode cL_lists 1 = .ok (.iload_n 3, 1) := by decide +kernel
theorem dL_lists_2 : decode cL_lists 2 = .ok (.iconst 1, 1) := by decide +kernel
theorem dL_lists_3 : decode cL_lists 3 = .ok (.iadd, 1) := by decide +kernel
theorem dL_lists_4 : decode cL_lists 4 = .ok (.aload_n 1, 1) := by decide +kernel
theorem dL_lists_5 : decode cL_lists 5 = .ok (.iconst 2, 1) := by decide +kernel
theorem dL_lists_6 : decode cL_lists 6 = .ok (.iaload, 1) := by decide +kernel
theorem dL_lists_7 : decode cL_lists 7 = .ok (.iconst 1, 1) := by decide +kernel
theorem dL_lists_8 : decode cL_lists 8 = .ok (.iadd, 1) := by decide +kernel
theorem dL_lists_9 : decode cL_lists 9 = .ok (.invokestatic 192, 3) := by decide +kernel
theorem dL_lists_12 : decode cL_lists 12 = .ok (.istore 4, 2) := by decide +kernel
theorem dL_lists_14 : decode cL_lists 14 = .ok (.aload_n 2, 1) := by decide +kernel
theorem dL_lists_15 : decode cL_lists 15 = .ok (.iload_n 3, 1) := by decide +kernel
theorem dL_lists_16 : decode cL_lists 16 = .ok (.iconst 4, 1) := by decide +kernel
theorem dL_lists_17 : decode cL_lists 17 = .ok (.iadd, 1) := by decide +kernel
theorem dL_lists_18 : decode cL_lists 18 = .ok (.aload_n 1, 1) := by decide +kernel
theorem dL_lists_19 : decode cL_lists 19 = .ok (.iconst 3, 1) := by decide +kernel
theorem dL_lists_20 : decode cL_lists 20 = .ok (.iaload, 1) := by decide +kernel
theorem dL_lists_21 : decode cL_lists 21 = .ok (.iconst 1, 1) := by decide +kernel
theorem dL_lists_22 : decode cL_lists 22 = .ok (.iadd, 1) := by decide +kernel
theorem dL_lists_23 : decode cL_lists 23 = .ok (.invokestatic 192, 3) := by decide +kernel
theorem dL_lists_26 : decode cL_lists 26 = .ok (.istore 5, 2) := by decide +kernel
theorem dL_lists_28 : decode cL_lists 28 = .ok (.aload_n 2, 1) := by decide +kernel
theorem dL_lists_29 : decode cL_lists 29 = .ok (.iload_n 3, 1) := by decide +kernel
theorem dL_lists_30 : decode cL_lists 30 = .ok (.iconst 3, 1) := by decide +kernel
theorem dL_lists_31 : decode cL_lists 31 = .ok (.iadd, 1) := by decide +kernel
theorem dL_lists_32 : decode cL_lists 32 = .ok (.iconst 3, 1) := by decide +kernel
theorem dL_lists_33 : decode cL_lists 33 = .ok (.invokestatic 192, 3) := by decide +kernel
theorem dL_lists_36 : decode cL_lists 36 = .ok (.ifCond .ne 7, 3) := by decide +kernel
theorem dL_lists_39 : decode cL_lists 39 = .ok (.iconst 0, 1) := by decide +kernel
theorem dL_lists_40 : decode cL_lists 40 = .ok (.goto 13, 3) := by decide +kernel
theorem dL_lists_43 : decode cL_lists 43 = .ok (.aload_n 2, 1) := by decide +kernel
theorem dL_lists_44 : decode cL_lists 44 = .ok (.iload_n 3, 1) := by decide +kernel
theorem dL_lists_45 : decode cL_lists 45 = .ok (.iconst 3, 1) := by decide +kernel
theorem dL_lists_46 : decode cL_lists 46 = .ok (.iadd, 1) := by decide +kernel
theorem dL_lists_47 : decode cL_lists 47 = .ok (.sipush 2000, 3) := by decide +kernel
theorem dL_lists_50 : decode cL_lists 50 = .ok (.invokestatic 192, 3) := by decide +kernel
theorem dL_lists_53 : decode cL_lists 53 = .ok (.istore 6, 2) := by decide +kernel
theorem dL_lists_55 : decode cL_lists 55 = .ok (.aload_n 2, 1) := by decide +kernel
theorem dL_lists_56 : decode cL_lists 56 = .ok (.iload_n 3, 1) := by decide +kernel
theorem dL_lists_57 : decode cL_lists 57 = .ok (.iconst 2, 1) := by decide +kernel
theorem dL_lists_58 : decode cL_lists 58 = .ok (.iadd, 1) := by decide +kernel
theorem dL_lists_59 : decode cL_lists 59 = .ok (.iconst 4, 1) := by decide +kernel
theorem dL_lists_60 : decode cL_lists 60 = .ok (.invokestatic 192, 3) := by decide +kernel
theorem dL_lists_63 : decode cL_lists 63 = .ok (.invokestatic 200, 3) := by decide +kernel
theorem dL_lists_66 : decode cL_lists 66 = .ok (.istore 7, 2) := by decide +kernel
theorem dL_lists_68 : decode cL_lists 68 = .ok (.aload_n 2, 1) := by decide +kernel
theorem dL_lists_69 : decode cL_lists 69 = .ok (.iload_n 3, 1) := by decide +kernel
theorem dL_lists_70 : decode cL_lists 70 = .ok (.bipush 6, 2) := by decide +kernel
theorem dL_lists_72 : decode cL_lists 72 = .ok (.invokestatic 192, 3) := by decide +kernel
theorem dL_lists_75 : decode cL_lists 75 = .ok (.tableswitch 181 0 2 #[25, 77, 129], 25) := by decide +kernel
theorem dL_lists_100 : decode cL_lists 100 = .ok (.aload_n 0, 1) := by decide +kernel
theorem dL_lists_101 : decode cL_lists 101 = .ok (.bipush 21, 2) := by decide +kernel
theorem dL_lists_103 : decode cL_lists 103 = .ok (.iload 5, 2) := by decide +kernel
theorem dL_lists_105 : decode cL_lists 105 = .ok (.iload 4, 2) := by decide +kernel
theorem dL_lists_107 : decode cL_lists 107 = .ok (.iconst 0, 1) := by decide +kernel
theorem dL_lists_108 : decode cL_lists 108 = .ok (.invokestatic 184, 3) := by decide +kernel
theorem dL_lists_111 : decode cL_lists 111 = .ok (.istore 8, 2) := by decide +kernel
theorem dL_lists_113 : decode cL_lists 113 = .ok (.iload 8, 2) := by decide +kernel
theorem dL_lists_115 : decode cL_lists 115 = .ok (.ifCond .lt 15, 3) := by decide +kernel
theorem dL_lists_118 : decode cL_lists 118 = .ok (.aload_n 1, 1) := by decide +kernel
theorem dL_lists_119 : decode cL_lists 119 = .ok (.sipush 140, 3) := by decide +kernel
theorem dL_lists_122 : decode cL_lists 122 = .ok (.iconst 3, 1) := by decide +kernel
theorem dL_lists_123 : decode cL_lists 123 = .ok (.iload 5, 2) := by decide +kernel
theorem dL_lists_125 : decode cL_lists 125 = .ok (.imul, 1) := by decide +kernel
theorem dL_lists_126 : decode cL_lists 126 = .ok (.iadd, 1) := by decide +kernel
theorem dL_lists_127 : decode cL_lists 127 = .ok (.iload 4, 2) := by decide +kernel
theorem dL_lists_129 : decode cL_lists 129 = .ok (.iastore, 1) := by decide +kernel
theorem dL_lists_130 : decode cL_lists 130 = .ok (.iload 5, 2) := by decide +kernel
theorem dL_lists_132 : decode cL_lists 132 = .ok (.aload_n 1, 1) := by decide +kernel
theorem dL_lists_133 : decode cL_lists 133 = .ok (.iconst 3, 1) := by decide +kernel
theorem dL_lists_134 : decode cL_lists 134 = .ok (.iaload, 1) := by decide +kernel
theorem dL_lists_135 : decode cL_lists 135 = .ok (.if_icmp .lt 11, 3) := by decide +kernel
theorem dL_lists_138 : decode cL_lists 138 = .ok (.iload 8, 2) := by decide +kernel
theorem dL_lists_140 : decode cL_lists 140 = .ok (.sipush (-2005), 3) := by decide +kernel
theorem dL_lists_143 : decode cL_lists 143 = .ok (.if_icmp .ne 7, 3) := by decide +kernel
theorem dL_lists_146 : decode cL_lists 146 = .ok (.iconst 1, 1) := by decide +kernel
theorem dL_lists_147 : decode cL_lists 147 = .ok (.goto 4, 3) := by decide +kernel
theorem dL_lists_150 : decode cL_lists 150 = .ok (.iconst 0, 1) := by decide +kernel
theorem dL_lists_151 : decode cL_lists 151 = .ok (.ireturn, 1) := by decide +kernel
theorem dL_lists_152 : decode cL_lists 152 = .ok (.aload_n 0, 1) := by decide +kernel
theorem dL_lists_153 : decode cL_lists 153 = .ok (.bipush 22, 2) := by decide +kernel
theorem dL_lists_155 : decode cL_lists 155 = .ok (.iload 5, 2) := by decide +kernel
theorem dL_lists_157 : decode cL_lists 157 = .ok (.iload 7, 2) := by decide +kernel
theorem dL_lists_159 : decode cL_lists 159 = .ok (.iconst 0, 1) := by decide +kernel
theorem dL_lists_160 : decode cL_lists 160 = .ok (.invokestatic 184, 3) := by decide +kernel
theorem dL_lists_163 : decode cL_lists 163 = .ok (.istore 8, 2) := by decide +kernel
theorem dL_lists_165 : decode cL_lists 165 = .ok (.iload 8, 2) := by decide +kernel
theorem dL_lists_167 : decode cL_lists 167 = .ok (.ifCond .lt 15, 3) := by decide +kernel
theorem dL_lists_170 : decode cL_lists 170 = .ok (.aload_n 1, 1) := by decide +kernel
theorem dL_lists_171 : decode cL_lists 171 = .ok (.sipush 141, 3) := by decide +kernel
theorem dL_lists_174 : decode cL_lists 174 = .ok (.iconst 3, 1) := by decide +kernel
theorem dL_lists_175 : decode cL_lists 175 = .ok (.iload 5, 2) := by decide +kernel
theorem dL_lists_177 : decode cL_lists 177 = .ok (.imul, 1) := by decide +kernel
theorem dL_lists_178 : decode cL_lists 178 = .ok (.iadd, 1) := by decide +kernel
theorem dL_lists_179 : decode cL_lists 179 = .ok (.iload 7, 2) := by decide +kernel
theorem dL_lists_181 : decode cL_lists 181 = .ok (.iastore, 1) := by decide +kernel
theorem dL_lists_182 : decode cL_lists 182 = .ok (.iload 5, 2) := by decide +kernel
theorem dL_lists_184 : decode cL_lists 184 = .ok (.aload_n 1, 1) := by decide +kernel
theorem dL_lists_185 : decode cL_lists 185 = .ok (.iconst 3, 1) := by decide +kernel
theorem dL_lists_186 : decode cL_lists 186 = .ok (.iaload, 1) := by decide +kernel
theorem dL_lists_187 : decode cL_lists 187 = .ok (.if_icmp .lt 11, 3) := by decide +kernel
theorem dL_lists_190 : decode cL_lists 190 = .ok (.iload 8, 2) := by decide +kernel
theorem dL_lists_192 : decode cL_lists 192 = .ok (.sipush (-2005), 3) := by decide +kernel
theorem dL_lists_195 : decode cL_lists 195 = .ok (.if_icmp .ne 7, 3) := by decide +kernel
theorem dL_lists_198 : decode cL_lists 198 = .ok (.iconst 1, 1) := by decide +kernel
theorem dL_lists_199 : decode cL_lists 199 = .ok (.goto 4, 3) := by decide +kernel
theorem dL_lists_202 : decode cL_lists 202 = .ok (.iconst 0, 1) := by decide +kernel
theorem dL_lists_203 : decode cL_lists 203 = .ok (.ireturn, 1) := by decide +kernel
theorem dL_lists_204 : decode cL_lists 204 = .ok (.aload_n 0, 1) := by decide +kernel
theorem dL_lists_205 : decode cL_lists 205 = .ok (.bipush 23, 2) := by decide +kernel
theorem dL_lists_207 : decode cL_lists 207 = .ok (.iload 5, 2) := by decide +kernel
theorem dL_lists_209 : decode cL_lists 209 = .ok (.iload 6, 2) := by decide +kernel
theorem dL_lists_211 : decode cL_lists 211 = .ok (.iconst 0, 1) := by decide +kernel
theorem dL_lists_212 : decode cL_lists 212 = .ok (.invokestatic 184, 3) := by decide +kernel
theorem dL_lists_215 : decode cL_lists 215 = .ok (.istore 8, 2) := by decide +kernel
theorem dL_lists_217 : decode cL_lists 217 = .ok (.iload 8, 2) := by decide +kernel
theorem dL_lists_219 : decode cL_lists 219 = .ok (.ifCond .lt 15, 3) := by decide +kernel
theorem dL_lists_222 : decode cL_lists 222 = .ok (.aload_n 1, 1) := by decide +kernel
theorem dL_lists_223 : decode cL_lists 223 = .ok (.sipush 142, 3) := by decide +kernel
theorem dL_lists_226 : decode cL_lists 226 = .ok (.iconst 3, 1) := by decide +kernel
theorem dL_lists_227 : decode cL_lists 227 = .ok (.iload 5, 2) := by decide +kernel
theorem dL_lists_229 : decode cL_lists 229 = .ok (.imul, 1) := by decide +kernel
theorem dL_lists_230 : decode cL_lists 230 = .ok (.iadd, 1) := by decide +kernel
theorem dL_lists_231 : decode cL_lists 231 = .ok (.iload 6, 2) := by decide +kernel
theorem dL_lists_233 : decode cL_lists 233 = .ok (.iastore, 1) := by decide +kernel
theorem dL_lists_234 : decode cL_lists 234 = .ok (.iload 5, 2) := by decide +kernel
theorem dL_lists_236 : decode cL_lists 236 = .ok (.aload_n 1, 1) := by decide +kernel
theorem dL_lists_237 : decode cL_lists 237 = .ok (.iconst 3, 1) := by decide +kernel
theorem dL_lists_238 : decode cL_lists 238 = .ok (.iaload, 1) := by decide +kernel
theorem dL_lists_239 : decode cL_lists 239 = .ok (.if_icmp .lt 11, 3) := by decide +kernel
theorem dL_lists_242 : decode cL_lists 242 = .ok (.iload 8, 2) := by decide +kernel
theorem dL_lists_244 : decode cL_lists 244 = .ok (.sipush (-2005), 3) := by decide +kernel
theorem dL_lists_247 : decode cL_lists 247 = .ok (.if_icmp .ne 7, 3) := by decide +kernel
theorem dL_lists_250 : decode cL_lists 250 = .ok (.iconst 1, 1) := by decide +kernel
theorem dL_lists_251 : decode cL_lists 251 = .ok (.goto 4, 3) := by decide +kernel
theorem dL_lists_254 : decode cL_lists 254 = .ok (.iconst 0, 1) := by decide +kernel
theorem dL_lists_255 : decode cL_lists 255 = .ok (.ireturn, 1) := by decide +kernel
theorem dL_lists_256 : decode cL_lists 256 = .ok (.aload_n 0, 1) := by decide +kernel
theorem dL_lists_257 : decode cL_lists 257 = .ok (.bipush 20, 2) := by decide +kernel
theorem dL_lists_259 : decode cL_lists 259 = .ok (.iload 4, 2) := by decide +kernel
theorem dL_lists_261 : decode cL_lists 261 = .ok (.iload 7, 2) := by decide +kernel
theorem dL_lists_263 : decode cL_lists 263 = .ok (.iload 6, 2) := by decide +kernel
theorem dL_lists_265 : decode cL_lists 265 = .ok (.invokestatic 184, 3) := by decide +kernel
theorem dL_lists_268 : decode cL_lists 268 = .ok (.istore 8, 2) := by decide +kernel
theorem dL_lists_270 : decode cL_lists 270 = .ok (.iload 8, 2) := by decide +kernel
theorem dL_lists_272 : decode cL_lists 272 = .ok (.ifCond .lt 49, 3) := by decide +kernel
theorem dL_lists_275 : decode cL_lists 275 = .ok (.aload_n 1, 1) := by decide +kernel
theorem dL_lists_276 : decode cL_lists 276 = .ok (.sipush 140, 3) := by decide +kernel
theorem dL_lists_279 : decode cL_lists 279 = .ok (.iconst 3, 1) := by decide +kernel
theorem dL_lists_280 : decode cL_lists 280 = .ok (.aload_n 1, 1) := by decide +kernel
theorem dL_lists_281 : decode cL_lists 281 = .ok (.iconst 3, 1) := by decide +kernel
theorem dL_lists_282 : decode cL_lists 282 = .ok (.iaload, 1) := by decide +kernel
theorem dL_lists_283 : decode cL_lists 283 = .ok (.imul, 1) := by decide +kernel
theorem dL_lists_284 : decode cL_lists 284 = .ok (.iadd, 1) := by decide +kernel
theorem dL_lists_285 : decode cL_lists 285 = .ok (.iload 4, 2) := by decide +kernel
theorem dL_lists_287 : decode cL_lists 287 = .ok (.iastore, 1) := by decide +kernel
theorem dL_lists_288 : decode cL_lists 288 = .ok (.aload_n 1, 1) := by decide +kernel
theorem dL_lists_289 : decode cL_lists 289 = .ok (.sipush 141, 3) := by decide +kernel
theorem dL_lists_292 : decode cL_lists 292 = .ok (.iconst 3, 1) := by decide +kernel
theorem dL_lists_293 : decode cL_lists 293 = .ok (.aload_n 1, 1) := by decide +kernel
theorem dL_lists_294 : decode cL_lists 294 = .ok (.iconst 3, 1) := by decide +kernel
theorem dL_lists_295 : decode cL_lists 295 = .ok (.iaload, 1) := by decide +kernel
theorem dL_lists_296 : decode cL_lists 296 = .ok (.imul, 1) := by decide +kernel
theorem dL_lists_297 : decode cL_lists 297 = .ok (.iadd, 1) := by decide +kernel
theorem dL_lists_298 : decode cL_lists 298 = .ok (.iload 7, 2) := by decide +kernel
theorem dL_lists_300 : decode cL_lists 300 = .ok (.iastore, 1) := by decide +kernel
theorem dL_lists_301 : decode cL_lists 301 = .ok (.aload_n 1, 1) := by decide +kernel
theorem dL_lists_302 : decode cL_lists 302 = .ok (.sipush 142, 3) := by decide +kernel
theorem dL_lists_305 : decode cL_lists 305 = .ok (.iconst 3, 1) := by decide +kernel
theorem dL_lists_306 : decode cL_lists 306 = .ok (.aload_n 1, 1) := by decide +kernel
theorem dL_lists_307 : decode cL_lists 307 = .ok (.iconst 3, 1) := by decide +kernel
theorem dL_lists_308 : decode cL_lists 308 = .ok (.iaload, 1) := by decide +kernel
theorem dL_lists_309 : decode cL_lists 309 = .ok (.imul, 1) := by decide +kernel
theorem dL_lists_310 : decode cL_lists 310 = .ok (.iadd, 1) := by decide +kernel
theorem dL_lists_311 : decode cL_lists 311 = .ok (.iload 6, 2) := by decide +kernel
theorem dL_lists_313 : decode cL_lists 313 = .ok (.iastore, 1) := by decide +kernel
theorem dL_lists_314 : decode cL_lists 314 = .ok (.aload_n 1, 1) := by decide +kernel
theorem dL_lists_315 : decode cL_lists 315 = .ok (.iconst 3, 1) := by decide +kernel
theorem dL_lists_316 : decode cL_lists 316 = .ok (.dup2, 1) := by decide +kernel
theorem dL_lists_317 : decode cL_lists 317 = .ok (.iaload, 1) := by decide +kernel
theorem dL_lists_318 : decode cL_lists 318 = .ok (.iconst 1, 1) := by decide +kernel
theorem dL_lists_319 : decode cL_lists 319 = .ok (.iadd, 1) := by decide +kernel
theorem dL_lists_320 : decode cL_lists 320 = .ok (.iastore, 1) := by decide +kernel
theorem dL_lists_321 : decode cL_lists 321 = .ok (.iload 8, 2) := by decide +kernel
theorem dL_lists_323 : decode cL_lists 323 = .ok (.iload 4, 2) := by decide +kernel
theorem dL_lists_325 : decode cL_lists 325 = .ok (.aload_n 1, 1) := by decide +kernel
theorem dL_lists_326 : decode cL_lists 326 = .ok (.iconst 2, 1) := by decide +kernel
theorem dL_lists_327 : decode cL_lists 327 = .ok (.iaload, 1) := by decide +kernel
theorem dL_lists_328 : decode cL_lists 328 = .ok (.if_icmp .ne 9, 3) := by decide +kernel
theorem dL_lists_331 : decode cL_lists 331 = .ok (.sipush (-2005), 3) := by decide +kernel
theorem dL_lists_334 : decode cL_lists 334 = .ok (.goto 22, 3) := by decide +kernel
theorem dL_lists_337 : decode cL_lists 337 = .ok (.iload 8, 2) := by decide +kernel
theorem dL_lists_339 : decode cL_lists 339 = .ok (.sipush (-2003), 3) := by decide +kernel
theorem dL_lists_342 : decode cL_lists 342 = .ok (.if_icmp .ne 9, 3) := by decide +kernel
theorem dL_lists_345 : decode cL_lists 345 = .ok (.sipush (-2003), 3) := by decide +kernel
theorem dL_lists_348 : decode cL_lists 348 = .ok (.goto 8, 3) := by decide +kernel
theorem dL_lists_351 : decode cL_lists 351 = .ok (.aload_n 1, 1) := by decide +kernel
theorem dL_lists_352 : decode cL_lists 352 = .ok (.iconst 3, 1) := by decide +kernel
theorem dL_lists_353 : decode cL_lists 353 = .ok (.iaload, 1) := by decide +kernel
theorem dL_lists_354 : decode cL_lists 354 = .ok (.iconst 1, 1) := by decide +kernel
theorem dL_lists_355 : decode cL_lists 355 = .ok (.isub, 1) := by decide +kernel
theorem dL_lists_356 : decode cL_lists 356 = .ok (.if_icmp .ne 7, 3) := by decide +kernel
theorem dL_lists_359 : decode cL_lists 359 = .ok (.iconst 1, 1) := by decide +kernel
theorem dL_lists_360 : decode cL_lists 360 = .ok (.goto 4, 3) := by decide +kernel
theorem dL_lists_363 : decode cL_lists 363 = .ok (.iconst 0, 1) := by decide +kernel
theorem dL_lists_364 : decode cL_lists 364 = .ok (.ireturn, 1) := by decide +kernel
theorem dL_acts_0 : decode cL_acts 0 = .ok (.aload_n 2, 1) := by decide +kernel
theorem dL_acts_1 : decode cL_acts 1 = .ok (.iload_n 3, 1) := by decide +kernel
theorem dL_acts_2 : decode cL_acts 2 = .ok (.iconst 1, 1) := by decide +kernel
theorem dL_acts_3 : decode cL_acts 3 = .ok (.iadd, 1) := by decide +kernel
theorem dL_acts_4 : decode cL_acts 4 = .ok (.aload_n 1, 1) := by decide +kernel
theorem dL_acts_5 : decode cL_acts 5 = .ok (.iconst 0, 1) := by decide +kernel
theorem dL_acts_6 : decode cL_acts 6 = .ok (.iaload, 1) := by decide +kernel
theorem dL_acts_7 : decode cL_acts 7 = .ok (.iconst 1, 1) := by decide +kernel
theorem dL_acts_8 : decode cL_acts 8 = .ok (.iadd, 1) := by decide +kernel
theorem dL_acts_9 : decode cL_acts 9 = .ok (.invokestatic 192, 3) := by decide +kernel
theorem dL_acts_12 : decode cL_acts 12 = .ok (.istore 4, 2) := by decide +kernel
theorem dL_acts_14 : decode cL_acts 14 = .ok (.aload_n 2, 1) := by decide +kernel
theorem dL_acts_15 : decode cL_acts 15 = .ok (.iload_n 3, 1) := by decide +kernel
theorem dL_acts_16 : decode cL_acts 16 = .ok (.iconst 2, 1) := by decide +kernel
theorem dL_acts_17 : decode cL_acts 17 = .ok (.iadd, 1) := by decide +kernel
theorem dL_acts_18 : decode cL_acts 18 = .ok (.aload_n 1, 1) := by decide +kernel
theorem dL_acts_19 : decode cL_acts 19 = .ok (.iconst 1, 1) := by decide +kernel
theorem dL_acts_20 : decode cL_acts 20 = .ok (.iaload, 1) := by decide +kernel
theorem dL_acts_21 : decode cL_acts 21 = .ok (.iconst 1, 1) := by decide +kernel
theorem dL_acts_22 : decode cL_acts 22 = .ok (.iadd, 1) := by decide +kernel
theorem dL_acts_23 : decode cL_acts 23 = .ok (.invokestatic 192, 3) := by decide +kernel
theorem dL_acts_26 : decode cL_acts 26 = .ok (.istore 5, 2) := by decide +kernel
theorem dL_acts_28 : decode cL_acts 28 = .ok (.aload_n 2, 1) := by decide +kernel
theorem dL_acts_29 : decode cL_acts 29 = .ok (.iload_n 3, 1) := by decide +kernel
theorem dL_acts_30 : decode cL_acts 30 = .ok (.bipush 15, 2) := by decide +kernel
theorem dL_acts_32 : decode cL_acts 32 = .ok (.invokestatic 192, 3) := by decide +kernel
theorem dL_acts_35 : decode cL_acts 35 = .ok (.tableswitch 258 0 11 #[61, 104, 125, 154, 154, 175, 202, 202, 202, 225, 248, 248], 61) := by decide +kernel
theorem dL_acts_96 : decode cL_acts 96 = .ok (.aload_n 1, 1) := by decide +kernel
theorem dL_acts_97 : decode cL_acts 97 = .ok (.iconst 0, 1) := by decide +kernel
theorem dL_acts_98 : decode cL_acts 98 = .ok (.dup2, 1) := by decide +kernel
theorem dL_acts_99 : decode cL_acts 99 = .ok (.iaload, 1) := by decide +kernel
theorem dL_acts_100 : decode cL_acts 100 = .ok (.aload_n 0, 1) := by decide +kernel
theorem dL_acts_101 : decode cL_acts 101 = .ok (.iconst 0, 1) := by decide +kernel
theorem dL_acts_102 : decode cL_acts 102 = .ok (.iconst 1, 1) := by decide +kernel
theorem dL_acts_103 : decode cL_acts 103 = .ok (.aload_n 2, 1) := by decide +kernel
theorem dL_acts_104 : decode cL_acts 104 = .ok (.iload_n 3, 1) := by decide +kernel
theorem dL_acts_105 : decode cL_acts 105 = .ok (.iconst 3, 1) := by decide +kernel
theorem dL_acts_106 : decode cL_acts 106 = .ok (.iadd, 1) := by decide +kernel
theorem dL_acts_107 : decode cL_acts 107 = .ok (.sipush 400, 3) := by decide +kernel
theorem dL_acts_110 : decode cL_acts 110 = .ok (.invokestatic 192, 3) := by decide +kernel
theorem dL_acts_113 : decode cL_acts 113 = .ok (.iadd, 1) := by decide +kernel
theorem dL_acts_114 : decode cL_acts 114 = .ok (.aload_n 2, 1) := by decide +kernel
theorem dL_acts_115 : decode cL_acts 115 = .ok (.iload_n 3, 1) := by decide +kernel
theorem dL_acts_116 : decode cL_acts 116 = .ok (.iconst 4, 1) := by decide +kernel
theorem dL_acts_117 : decode cL_acts 117 = .ok (.iadd, 1) := by decide +kernel
theorem dL_acts_118 : decode cL_acts 118 = .ok (.bipush 6, 2) := by decide +kernel
theorem dL_acts_120 : decode cL_acts 120 = .ok (.invokestatic 192, 3) := by decide +kernel
theorem dL_acts_123 : decode cL_acts 123 = .ok (.iconst 0, 1) := by decide +kernel
theorem dL_acts_124 : decode cL_acts 124 = .ok (.invokestatic 184, 3) := by decide +kernel
theorem dL_acts_127 : decode cL_acts 127 = .ok (.ifCond .lt 7, 3) := by decide +kernel
theorem dL_acts_130 : decode cL_acts 130 = .ok (.iconst 1, 1) := by decide +kernel
theorem dL_acts_131 : decode cL_acts 131 = .ok (.goto 4, 3) := by decide +kernel
theorem dL_acts_134 : decode cL_acts 134 = .ok (.iconst 0, 1) := by decide +kernel
theorem dL_acts_135 : decode cL_acts 135 = .ok (.iadd, 1) := by decide +kernel
theorem dL_acts_136 : decode cL_acts 136 = .ok (.iastore, 1) := by decide +kernel
theorem dL_acts_137 : decode cL_acts 137 = .ok (.iconst 1, 1) := by decide +kernel
theorem dL_acts_138 : decode cL_acts 138 = .ok (.ireturn, 1) := by decide +kernel
theorem dL_acts_139 : decode cL_acts 139 = .ok (.aload_n 0, 1) := by decide +kernel
theorem dL_acts_140 : decode cL_acts 140 = .ok (.iconst 1, 1) := by decide +kernel
theorem dL_acts_141 : decode cL_acts 141 = .ok (.iload 4, 2) := by decide +kernel
theorem dL_acts_143 : decode cL_acts 143 = .ok (.iconst 0, 1) := by decide +kernel
theorem dL_acts_144 : decode cL_acts 144 = .ok (.iconst 0, 1) := by decide +kernel
theorem dL_acts_145 : decode cL_acts 145 = .ok (.invokestatic 184, 3) := by decide +kernel
theorem dL_acts_148 : decode cL_acts 148 = .ok (.sipush (-2003), 3) := by decide +kernel
theorem dL_acts_151 : decode cL_acts 151 = .ok (.if_icmp .eq 7, 3) := by decide +kernel
theorem dL_acts_154 : decode cL_acts 154 = .ok (.iconst 1, 1) := by decide +kernel
theorem dL_acts_155 : decode cL_acts 155 = .ok (.goto 4, 3) := by decide +kernel
theorem dL_acts_158 : decode cL_acts 158 = .ok (.iconst 0, 1) := by decide +kernel
theorem dL_acts_159 : decode cL_acts 159 = .ok (.ireturn, 1) := by decide +kernel
theorem dL_acts_160 : decode cL_acts 160 = .ok (.aload_n 0, 1) := by decide +kernel
theorem dL_acts_161 : decode cL_acts 161 = .ok (.iconst 2, 1) := by decide +kernel
theorem dL_acts_162 : decode cL_acts 162 = .ok (.iload 4, 2) := by decide +kernel
theorem dL_acts_164 : decode cL_acts 164 = .ok (.aload_n 2, 1) := by decide +kernel
theorem dL_acts_165 : decode cL_acts 165 = .ok (.iload_n 3, 1) := by decide +kernel
theorem dL_acts_166 : decode cL_acts 166 = .ok (.iconst 3, 1) := by decide +kernel
theorem dL_acts_167 : decode cL_acts 167 = .ok (.iadd, 1) := by decide +kernel
theorem dL_acts_168 : decode cL_acts 168 = .ok (.bipush 6, 2) := by decide +kernel
theorem dL_acts_170 : decode cL_acts 170 = .ok (.invokestatic 192, 3) := by decide +kernel
theorem dL_acts_173 : decode cL_acts 173 = .ok (.iconst 0, 1) := by decide +kernel
theorem dL_acts_174 : decode cL_acts 174 = .ok (.invokestatic 184, 3) := by decide +kernel
theorem dL_acts_177 : decode cL_acts 177 = .ok (.sipush (-2003), 3) := by decide +kernel
theorem dL_acts_180 : decode cL_acts 180 = .ok (.if_icmp .eq 7, 3) := by decide +kernel
theorem dL_acts_183 : decode cL_acts 183 = .ok (.iconst 1, 1) := by decide +kernel
theorem dL_acts_184 : decode cL_acts 184 = .ok (.goto 4, 3) := by decide +kernel
theorem dL_acts_187 : decode cL_acts 187 = .ok (.iconst 0, 1) := by decide +kernel
theorem dL_acts_188 : decode cL_acts 188 = .ok (.ireturn, 1) := by decide +kernel
theorem dL_acts_189 : decode cL_acts 189 = .ok (.aload_n 0, 1) := by decide +kernel
theorem dL_acts_190 : decode cL_acts 190 = .ok (.iconst 3, 1) := by decide +kernel
theorem dL_acts_191 : decode cL_acts 191 = .ok (.iload 4, 2) := by decide +kernel
theorem dL_acts_193 : decode cL_acts 193 = .ok (.iconst 0, 1) := by decide +kernel
theorem dL_acts_194 : decode cL_acts 194 = .ok (.iconst 0, 1) := by decide +kernel
theorem dL_acts_195 : decode cL_acts 195 = .ok (.invokestatic 184, 3) := by decide +kernel
theorem dL_acts_198 : decode cL_acts 198 = .ok (.sipush (-2002), 3) := by decide +kernel
theorem dL_acts_201 : decode cL_acts 201 = .ok (.if_icmp .eq 7, 3) := by decide +kernel
theorem dL_acts_204 : decode cL_acts 204 = .ok (.iconst 1, 1) := by decide +kernel
theorem dL_acts_205 : decode cL_acts 205 = .ok (.goto 4, 3) := by decide +kernel
theorem dL_acts_208 : decode cL_acts 208 = .ok (.iconst 0, 1) := by decide +kernel
theorem dL_acts_209 : decode cL_acts 209 = .ok (.ireturn, 1) := by decide +kernel
theorem dL_acts_210 : decode cL_acts 210 = .ok (.aload_n 0, 1) := by decide +kernel
theorem dL_acts_211 : decode cL_acts 211 = .ok (.iconst 4, 1) := by decide +kernel
theorem dL_acts_212 : decode cL_acts 212 = .ok (.iconst 1, 1) := by decide +kernel
theorem dL_acts_213 : decode cL_acts 213 = .ok (.aload_n 2, 1) := by decide +kernel
theorem dL_acts_214 : decode cL_acts 214 = .ok (.iload_n 3, 1) := by decide +kernel
theorem dL_acts_215 : decode cL_acts 215 = .ok (.iconst 3, 1) := by decide +kernel
theorem dL_acts_216 : decode cL_acts 216 = .ok (.iadd, 1) := by decide +kernel
theorem dL_acts_217 : decode cL_acts 217 = .ok (.bipush 20, 2) := by decide +kernel
theorem dL_acts_219 : decode cL_acts 219 = .ok (.invokestatic 192, 3) := by decide +kernel
theorem dL_acts_222 : decode cL_acts 222 = .ok (.iadd, 1) := by decide +kernel
theorem dL_acts_223 : decode cL_acts 223 = .ok (.iconst 0, 1) := by decide +kernel
theorem dL_acts_224 : decode cL_acts 224 = .ok (.iconst 0, 1) := by decide +kernel
theorem dL_acts_225 : decode cL_acts 225 = .ok (.invokestatic 184, 3) := by decide +kernel
theorem dL_acts_228 : decode cL_acts 228 = .ok (.ifCond .le 7, 3) := by decide +kernel
theorem dL_acts_231 : decode cL_acts 231 = .ok (.iconst 1, 1) := by decide +kernel
theorem dL_acts_232 : decode cL_acts 232 = .ok (.goto 4, 3) := by decide +kernel
theorem dL_acts_235 : decode cL_acts 235 = .ok (.iconst 0, 1) := by decide +kernel
theorem dL_acts_236 : decode cL_acts 236 = .ok (.ireturn, 1) := by decide +kernel
theorem dL_acts_237 : decode cL_acts 237 = .ok (.aload_n 0, 1) := by decide +kernel
theorem dL_acts_238 : decode cL_acts 238 = .ok (.bipush 7, 2) := by decide +kernel
theorem dL_acts_240 : decode cL_acts 240 = .ok (.iload 4, 2) := by decide +kernel
theorem dL_acts_242 : decode cL_acts 242 = .ok (.iload 5, 2) := by decide +kernel
theorem dL_acts_244 : decode cL_acts 244 = .ok (.iconst 0, 1) := by decide +kernel
theorem dL_acts_245 : decode cL_acts 245 = .ok (.invokestatic 184, 3) := by decide +kernel
theorem dL_acts_248 : decode cL_acts 248 = .ok (.sipush (-2002), 3) := by decide +kernel
theorem dL_acts_251 : decode cL_acts 251 = .ok (.if_icmp .eq 7, 3) := by decide +kernel
theorem dL_acts_254 : decode cL_acts 254 = .ok (.iconst 1, 1) := by decide +kernel
theorem dL_acts_255 : decode cL_acts 255 = .ok (.goto 4, 3) := by decide +kernel
theorem dL_acts_258 : decode cL_acts 258 = .ok (.iconst 0, 1) := by decide +kernel
theorem dL_acts_259 : decode cL_acts 259 = .ok (.ireturn, 1) := by decide +kernel
theorem dL_acts_260 : decode cL_acts 260 = .ok (.aload_n 0, 1) := by decide +kernel
theorem dL_acts_261 : decode cL_acts 261 = .ok (.bipush 8, 2) := by decide +kernel
theorem dL_acts_263 : decode cL_acts 263 = .ok (.iload 4, 2) := by decide +kernel
theorem dL_acts_265 : decode cL_acts 265 = .ok (.iload 5, 2) := by decide +kernel
theorem dL_acts_267 : decode cL_acts 267 = .ok (.iconst 0, 1) := by decide +kernel
theorem dL_acts_268 : decode cL_acts 268 = .ok (.invokestatic 184, 3) := by decide +kernel
theorem dL_acts_271 : decode cL_acts 271 = .ok (.sipush (-2002), 3) := by decide +kernel
theorem dL_acts_274 : decode cL_acts 274 = .ok (.if_icmp .eq 7, 3) := by decide +kernel
theorem dL_acts_277 : decode cL_acts 277 = .ok (.iconst 1, 1) := by decide +kernel
theorem dL_acts_278 : decode cL_acts 278 = .ok (.goto 4, 3) := by decide +kernel
theorem dL_acts_281 : decode cL_acts 281 = .ok (.iconst 0, 1) := by decide +kernel
theorem dL_acts_282 : decode cL_acts 282 = .ok (.ireturn, 1) := by decide +kernel
theorem dL_acts_283 : decode cL_acts 283 = .ok (.aload_n 0, 1) := by decide +kernel
theorem dL_acts_284 : decode cL_acts 284 = .ok (.aload_n 1, 1) := by decide +kernel
theorem dL_acts_285 : decode cL_acts 285 = .ok (.aload_n 2, 1) := by decide +kernel
theorem dL_acts_286 : decode cL_acts 286 = .ok (.iload_n 3, 1) := by decide +kernel
theorem dL_acts_287 : decode cL_acts 287 = .ok (.iconst 5, 1) := by decide +kernel
theorem dL_acts_288 : decode cL_acts 288 = .ok (.iadd, 1) := by decide +kernel
theorem dL_acts_289 : decode cL_acts 289 = .ok (.invokestatic 204, 3) := by decide +kernel
theorem dL_acts_292 : decode cL_acts 292 = .ok (.ireturn, 1) := by decide +kernel
theorem dL_acts_293 : decode cL_acts 293 = .ok (.aload_n 0, 1) := by decide +kernel
theorem dL_acts_294 : decode cL_acts 294 = .ok (.aload_n 1, 1) := by decide +kernel
theorem dL_acts_295 : decode cL_acts 295 = .ok (.aload_n 2, 1) := by decide +kernel
theorem dL_acts_296 : decode cL_acts 296 = .ok (.iload_n 3, 1) := by decide +kernel
theorem dL_acts_297 : decode cL_acts 297 = .ok (.iconst 5, 1) := by decide +kernel
theorem dL_acts_298 : decode cL_acts 298 = .ok (.iadd, 1) := by decide +kernel
theorem dL_acts_299 : decode cL_acts 299 = .ok (.invokestatic 208, 3) := by decide +kernel
theorem dL_acts_302 : decode cL_acts 302 = .ok (.ireturn, 1) := by decide +kernel
