theorem dX5_init_0 : decode cX5_init 0 = .ok (.aload_n 0, 1) := by decide +kernel
theorem dX5_init_1 : decode cX5_init 1 = .ok (.invokespecial 1, 3) := by decide +kernel
theorem dX5_init_4 : decode cX5_init 4 = .ok (.aload_n 0, 1) := by decide +kernel
theorem dX5_init_5 : decode cX5_init 5 = .ok (.bipush 24, 2) := by decide +kernel
theorem dX5_init_7 : decode cX5_init 7 = .ok (.newarray .int, 2) := by decide +kernel
theorem dX5_init_9 : decode cX5_init 9 = .ok (.putfield 7, 3) := by decide +kernel
theorem dX5_init_12 : decode cX5_init 12 = .ok (.aload_n 0, 1) := by decide +kernel
theorem dX5_init_13 : decode cX5_init 13 = .ok (.bipush 24, 2) := by decide +kernel
theorem dX5_init_15 : decode cX5_init 15 = .ok (.newarray .int, 2) := by decide +kernel
theorem dX5_init_17 : decode cX5_init 17 = .ok (.putfield 13, 3) := by decide +kernel
theorem dX5_init_20 : decode cX5_init 20 = .ok (.aload_n 0, 1) := by decide +kernel
theorem dX5_init_21 : decode cX5_init 21 = .ok (.bipush 24, 2) := by decide +kernel
theorem dX5_init_23 : decode cX5_init 23 = .ok (.newarray .int, 2) := by decide +kernel
theorem dX5_init_25 : decode cX5_init 25 = .ok (.putfield 16, 3) := by decide +kernel
theorem dX5_init_28 : decode cX5_init 28 = .ok (.aload_n 0, 1) := by decide +kernel
theorem dX5_init_29 : decode cX5_init 29 = .ok (.bipush 24, 2) := by decide +kernel
theorem dX5_init_31 : decode cX5_init 31 = .ok (.newarray .int, 2) := by decide +kernel
theorem dX5_init_33 : decode cX5_init 33 = .ok (.putfield 19, 3) := by decide +kernel
theorem dX5_init_36 : decode cX5_init 36 = .ok (.aload_n 0, 1) := by decide +kernel
theorem dX5_init_37 : decode cX5_init 37 = .ok (.bipush 24, 2) := by decide +kernel
theorem dX5_init_39 : decode cX5_init 39 = .ok (.newarray .int, 2) := by decide +kernel
theorem dX5_init_41 : decode cX5_init 41 = .ok (.putfield 22, 3) := by decide +kernel
theorem dX5_init_44 : decode cX5_init 44 = .ok (.aload_n 0, 1) := by decide +kernel
theorem dX5_init_45 : decode cX5_init 45 = .ok (.bipush 24, 2) := by decide +kernel
theorem dX5_init_47 : decode cX5_init 47 = .ok (.newarray .boolean, 2) := by decide +kernel
theorem dX5_init_49 : decode cX5_init 49 = .ok (.putfield 25, 3) := by decide +kernel
theorem dX5_init_52 : decode cX5_init 52 = .ok (.aload_n 0, 1) := by decide +kernel
theorem dX5_init_53 : decode cX5_init 53 = .ok (.bipush 16, 2) := by decide +kernel
theorem dX5_init_55 : decode cX5_init 55 = .ok (.newarray .int, 2) := by decide +kernel
theorem dX5_init_57 : decode cX5_init 57 = .ok (.putfield 29, 3) := by decide +kernel
theorem dX5_init_60 : decode cX5_init 60 = .ok (.aload_n 0, 1) := by decide +kernel
theorem dX5_init_61 : decode cX5_init 61 = .ok (.bipush 96, 2) := by decide +kernel
theorem dX5_init_63 : decode cX5_init 63 = .ok (.newarray .char, 2) := by decide +kernel
theorem dX5_init_65 : decode cX5_init 65 = .ok (.putfield 32, 3) := by decide +kernel
theorem dX5_init_68 : decode cX5_init 68 = .ok (.aload_n 0, 1) := by decide +kernel
theorem dX5_init_69 : decode cX5_init 69 = .ok (.bipush 16, 2) := by decide +kernel
theorem dX5_init_71 : decode cX5_init 71 = .ok (.newarray .boolean, 2) := by decide +kernel
theorem dX5_init_73 : decode cX5_init 73 = .ok (.putfield 36, 3) := by decide +kernel
theorem dX5_init_76 : decode cX5_init 76 = .ok (.aload_n 0, 1) := by decide +kernel
theorem dX5_init_77 : decode cX5_init 77 = .ok (.bipush 40, 2) := by decide +kernel
theorem dX5_init_79 : decode cX5_init 79 = .ok (.newarray .int, 2) := by decide +kernel
theorem dX5_init_81 : decode cX5_init 81 = .ok (.putfield 39, 3) := by decide +kernel
theorem dX5_init_84 : decode cX5_init 84 = .ok (.aload_n 0, 1) := by decide +kernel
theorem dX5_init_85 : decode cX5_init 85 = .ok (.bipush 40, 2) := by decide +kernel
theorem dX5_init_87 : decode cX5_init 87 = .ok (.newarray .int, 2) := by decide +kernel
theorem dX5_init_89 : decode cX5_init 89 = .ok (.putfield 42, 3) := by decide +kernel
theorem dX5_init_92 : decode cX5_init 92 = .ok (.aload_n 0, 1) := by decide +kernel
theorem dX5_init_93 : decode cX5_init 93 = .ok (.bipush 40, 2) := by decide +kernel
theorem dX5_init_95 : decode cX5_init 95 = .ok (.newarray .int, 2) := by decide +kernel
theorem dX5_init_97 : decode cX5_init 97 = .ok (.putfield 45, 3) := by decide +kernel
theorem dX5_init_100 : decode cX5_init 100 = .ok (.aload_n 0, 1) := by decide +kernel
theorem dX5_init_101 : decode cX5_init 101 = .ok (.bipush 40, 2) := by decide +kernel
theorem dX5_init_103 : decode cX5_init 103 = .ok (.newarray .int, 2) := by decide +kernel
theorem dX5_init_105 : decode cX5_init 105 = .ok (.putfield 48, 3) := by decide +kernel
theorem dX5_init_108 : decode cX5_init 108 = .ok (.aload_n 0, 1) := by decide +kernel
theorem dX5_init_109 : decode cX5_init 109 = .ok (.bipush 8, 2) := by decide +kernel
theorem dX5_init_111 : decode cX5_init 111 = .ok (.newarray .int, 2) := by decide +kernel
theorem dX5_init_113 : decode cX5_init 113 = .ok (.putfield 51, 3) := by decide +kernel
theorem dX5_init_116 : decode cX5_init 116 = .ok (.aload_n 0, 1) := by decide +kernel
theorem dX5_init_117 : decode cX5_init 117 = .ok (.bipush 8, 2) := by decide +kernel
theorem dX5_init_119 : decode cX5_init 119 = .ok (.newarray .char, 2) := by decide +kernel
theorem dX5_init_121 : decode cX5_init 121 = .ok (.putfield 54, 3) := by decide +kernel
theorem dX5_init_124 : decode cX5_init 124 = .ok (.aload_n 0, 1) := by decide +kernel
theorem dX5_init_125 : decode cX5_init 125 = .ok (.bipush 8, 2) := by decide +kernel
theorem dX5_init_127 : decode cX5_init 127 = .ok (.newarray .int, 2) := by decide +kernel
theorem dX5_init_129 : decode cX5_init 129 = .ok (.putfield 57, 3) := by decide +kernel
theorem dX5_init_132 : decode cX5_init 132 = .ok (.aload_n 0, 1) := by decide +kernel
theorem dX5_init_133 : decode cX5_init 133 = .ok (.bipush 8, 2) := by decide +kernel
theorem dX5_init_135 : decode cX5_init 135 = .ok (.newarray .int, 2) := by decide +kernel
theorem dX5_init_137 : decode cX5_init 137 = .ok (.putfield 60, 3) := by decide +kernel
theorem dX5_init_140 : decode cX5_init 140 = .ok (.aload_n 0, 1) := by decide +kernel
theorem dX5_init_141 : decode cX5_init 141 = .ok (.bipush 8, 2) := by decide +kernel
theorem dX5_init_143 : decode cX5_init 143 = .ok (.newarray .int, 2) := by decide +kernel
theorem dX5_init_145 : decode cX5_init 145 = .ok (.putfield 63, 3) := by decide +kernel
theorem dX5_init_148 : decode cX5_init 148 = .ok (.aload_n 0, 1) := by decide +kernel
theorem dX5_init_149 : decode cX5_init 149 = .ok (.sipush 192, 3) := by decide +kernel
theorem dX5_init_152 : decode cX5_init 152 = .ok (.newarray .int, 2) := by decide +kernel
theorem dX5_init_154 : decode cX5_init 154 = .ok (.putfield 66, 3) := by decide +kernel
theorem dX5_init_157 : decode cX5_init 157 = .ok (.aload_n 0, 1) := by decide +kernel
theorem dX5_init_158 : decode cX5_init 158 = .ok (.bipush 8, 2) := by decide +kernel
theorem dX5_init_160 : decode cX5_init 160 = .ok (.newarray .int, 2) := by decide +kernel
theorem dX5_init_162 : decode cX5_init 162 = .ok (.putfield 69, 3) := by decide +kernel
theorem dX5_init_165 : decode cX5_init 165 = .ok (.aload_n 0, 1) := by decide +kernel
theorem dX5_init_166 : decode cX5_init 166 = .ok (.bipush 8, 2) := by decide +kernel
theorem dX5_init_168 : decode cX5_init 168 = .ok (.newarray .boolean, 2) := by decide +kernel
theorem dX5_init_170 : decode cX5_init 170 = .ok (.putfield 72, 3) := by decide +kernel
theorem dX5_init_173 : decode cX5_init 173 = .ok (.aload_n 0, 1) := by decide +kernel
theorem dX5_init_174 : decode cX5_init 174 = .ok (.bipush 16, 2) := by decide +kernel
theorem dX5_init_176 : decode cX5_init 176 = .ok (.newarray .int, 2) := by decide +kernel
theorem dX5_init_178 : decode cX5_init 178 = .ok (.putfield 75, 3) := by decide +kernel
theorem dX5_init_181 : decode cX5_init 181 = .ok (.aload_n 0, 1) := by decide +kernel
theorem dX5_init_182 : decode cX5_init 182 = .ok (.bipush 16, 2) := by decide +kernel
theorem dX5_init_184 : decode cX5_init 184 = .ok (.newarray .int, 2) := by decide +kernel
theorem dX5_init_186 : decode cX5_init 186 = .ok (.putfield 78, 3) := by decide +kernel
theorem dX5_init_189 : decode cX5_init 189 = .ok (.aload_n 0, 1) := by decide +kernel
theorem dX5_init_190 : decode cX5_init 190 = .ok (.sipush 384, 3) := by decide +kernel
theorem dX5_init_193 : decode cX5_init 193 = .ok (.newarray .int, 2) := by decide +kernel
theorem dX5_init_195 : decode cX5_init 195 = .ok (.putfield 81, 3) := by decide +kernel
theorem dX5_init_198 : decode cX5_init 198 = .ok (.aload_n 0, 1) := by decide +kernel
theorem dX5_init_199 : decode cX5_init 199 = .ok (.bipush 16, 2) := by decide +kernel
theorem dX5_init_201 : decode cX5_init 201 = .ok (.newarray .long, 2) := by decide +kernel
theorem dX5_init_203 : decode cX5_init 203 = .ok (.putfield 84, 3) := by decide +kernel
theorem dX5_init_206 : decode cX5_init 206 = .ok (.aload_n 0, 1) := by decide +kernel
theorem dX5_init_207 : decode cX5_init 207 = .ok (.bipush 49, 2) := by decide +kernel
theorem dX5_init_209 : decode cX5_init 209 = .ok (.newarray .int, 2) := by decide +kernel
theorem dX5_init_211 : decode cX5_init 211 = .ok (.putfield 88, 3) := by decide +kernel
theorem dX5_init_214 : decode cX5_init 214 = .ok (.return_, 1) := by decide +kernel
theorem dX5_thrown_0 : decode cX5_thrown 0 = .ok (.aload_n 0, 1) := by decide +kernel
theorem dX5_thrown_1 : decode cX5_thrown 1 = .ok (.getfield 91, 3) := by decide +kernel
theorem dX5_thrown_4 : decode cX5_thrown 4 = .ok (.ireturn, 1) := by decide +kernel
theorem dX5_in_0 : decode cX5_in 0 = .ok (.iload_n 0, 1) := by decide +kernel
theorem dX5_in_1 : decode cX5_in 1 = .ok (.iload_n 1, 1) := by decide +kernel
theorem dX5_in_2 : decode cX5_in 2 = .ok (.if_icmp .lt 12, 3) := by decide +kernel
theorem dX5_in_5 : decode cX5_in 5 = .ok (.iload_n 0, 1) := by decide +kernel
theorem dX5_in_6 : decode cX5_in 6 = .ok (.iload_n 2, 1) := by decide +kernel
theorem dX5_in_7 : decode cX5_in 7 = .ok (.if_icmp .gt 7, 3) := by decide +kernel
theorem dX5_in_10 : decode cX5_in 10 = .ok (.iconst 1, 1) := by decide +kernel
theorem dX5_in_11 : decode cX5_in 11 = .ok (.goto 4, 3) := by decide +kernel
theorem dX5_in_14 : decode cX5_in 14 = .ok (.iconst 0, 1) := by decide +kernel
theorem dX5_in_15 : decode cX5_in 15 = .ok (.ireturn, 1) := by decide +kernel
theorem dX5_fails_0 : decode cX5_fails 0 = .ok (.iload_n 1, 1) := by decide +kernel
theorem dX5_fails_1 : decode cX5_fails 1 = .ok (.ifCond .eq 15, 3) := by decide +kernel
theorem dX5_fails_4 : decode cX5_fails 4 = .ok (.aload_n 0, 1) := by decide +kernel
theorem dX5_fails_5 : decode cX5_fails 5 = .ok (.getfield 91, 3) := by decide +kernel
theorem dX5_fails_8 : decode cX5_fails 8 = .ok (.ifCond .ne 8, 3) := by decide +kernel
theorem dX5_fails_11 : decode cX5_fails 11 = .ok (.aload_n 0, 1) := by decide +kernel
theorem dX5_fails_12 : decode cX5_fails 12 = .ok (.iload_n 2, 1) := by decide +kernel
theorem dX5_fails_13 : decode cX5_fails 13 = .ok (.putfield 91, 3) := by decide +kernel
theorem dX5_fails_16 : decode cX5_fails 16 = .ok (.aload_n 0, 1) := by decide +kernel
theorem dX5_fails_17 : decode cX5_fails 17 = .ok (.getfield 91, 3) := by decide +kernel
theorem dX5_fails_20 : decode cX5_fails 20 = .ok (.ifCond .eq 7, 3) := by decide +kernel
theorem dX5_fails_23 : decode cX5_fails 23 = .ok (.iconst 1, 1) := by decide +kernel
theorem dX5_fails_24 : decode cX5_fails 24 = .ok (.goto 4, 3) := by decide +kernel
theorem dX5_fails_27 : decode cX5_fails 27 = .ok (.iconst 0, 1) := by decide +kernel
theorem dX5_fails_28 : decode cX5_fails 28 = .ok (.ireturn, 1) := by decide +kernel
theorem dX5_noTrack_0 : decode cX5_noTrack 0 = .ok (.iload_n 1, 1) := by decide +kernel
theorem dX5_noTrack_1 : decode cX5_noTrack 1 = .ok (.iconst 0, 1) := by decide +kernel
theorem dX5_noTrack_2 : decode cX5_noTrack 2 = .ok (.aload_n 0, 1) := by decide +kernel
theorem dX5_noTrack_3 : decode cX5_noTrack 3 = .ok (.getfield 95, 3) := by decide +kernel
theorem dX5_noTrack_6 : decode cX5_noTrack 6 = .ok (.iconst 1, 1) := by decide +kernel
theorem dX5_noTrack_7 : decode cX5_noTrack 7 = .ok (.isub, 1) := by decide +kernel
theorem dX5_noTrack_8 : decode cX5_noTrack 8 = .ok (.invokestatic 98, 3) := by decide +kernel
theorem dX5_noTrack_11 : decode cX5_noTrack 11 = .ok (.ifCond .eq 12, 3) := by decide +kernel
theorem dX5_noTrack_14 : decode cX5_noTrack 14 = .ok (.aload_n 0, 1) := by decide +kernel
theorem dX5_noTrack_15 : decode cX5_noTrack 15 = .ok (.getfield 25, 3) := by decide +kernel
theorem dX5_noTrack_18 : decode cX5_noTrack 18 = .ok (.iload_n 1, 1) := by decide +kernel
theorem dX5_noTrack_19 : decode cX5_noTrack 19 = .ok (.baload, 1) := by decide +kernel
theorem dX5_noTrack_20 : decode cX5_noTrack 20 = .ok (.ifCond .eq 7, 3) := by decide +kernel
theorem dX5_noTrack_23 : decode cX5_noTrack 23 = .ok (.iconst 1, 1) := by decide +kernel
theorem dX5_noTrack_24 : decode cX5_noTrack 24 = .ok (.goto 4, 3) := by decide +kernel
theorem dX5_noTrack_27 : decode cX5_noTrack 27 = .ok (.iconst 0, 1) := by decide +kernel
theorem dX5_noTrack_28 : decode cX5_noTrack 28 = .ok (.ireturn, 1) := by decide +kernel
theorem dX5_noTag_0 : decode cX5_noTag 0 = .ok (.iload_n 1, 1) := by decide +kernel
theorem dX5_noTag_1 : decode cX5_noTag 1 = .ok (.iconst 0, 1) := by decide +kernel
theorem dX5_noTag_2 : decode cX5_noTag 2 = .ok (.aload_n 0, 1) := by decide +kernel
theorem dX5_noTag_3 : decode cX5_noTag 3 = .ok (.getfield 102, 3) := by decide +kernel
theorem dX5_noTag_6 : decode cX5_noTag 6 = .ok (.iconst 1, 1) := by decide +kernel
theorem dX5_noTag_7 : decode cX5_noTag 7 = .ok (.isub, 1) := by decide +kernel
theorem dX5_noTag_8 : decode cX5_noTag 8 = .ok (.invokestatic 98, 3) := by decide +kernel
theorem dX5_noTag_11 : decode cX5_noTag 11 = .ok (.ifCond .eq 12, 3) := by decide +kernel
theorem dX5_noTag_14 : decode cX5_noTag 14 = .ok (.aload_n 0, 1) := by decide +kernel
theorem dX5_noTag_15 : decode cX5_noTag 15 = .ok (.getfield 36, 3) := by decide +kernel
theorem dX5_noTag_18 : decode cX5_noTag 18 = .ok (.iload_n 1, 1) := by decide +kernel
theorem dX5_noTag_19 : decode cX5_noTag 19 = .ok (.baload, 1) := by decide +kernel
theorem dX5_noTag_20 : decode cX5_noTag 20 = .ok (.ifCond .eq 7, 3) := by decide +kernel
theorem dX5_noTag_23 : decode cX5_noTag 23 = .ok (.iconst 1, 1) := by decide +kernel
theorem dX5_noTag_24 : decode cX5_noTag 24 = .ok (.goto 4, 3) := by decide +kernel
theorem dX5_noTag_27 : decode cX5_noTag 27 = .ok (.iconst 0, 1) := by decide +kernel
theorem dX5_noTag_28 : decode cX5_noTag 28 = .ok (.ireturn, 1) := by decide +kernel
theorem dX5_noRule_0 : decode cX5_noRule 0 = .ok (.iload_n 1, 1) := by decide +kernel
theorem dX5_noRule_1 : decode cX5_noRule 1 = .ok (.iconst 0, 1) := by decide +kernel
theorem dX5_noRule_2 : decode cX5_noRule 2 = .ok (.aload_n 0, 1) := by decide +kernel
theorem dX5_noRule_3 : decode cX5_noRule 3 = .ok (.getfield 105, 3) := by decide +kernel
theorem dX5_noRule_6 : decode cX5_noRule 6 = .ok (.iconst 1, 1) := by decide +kernel
theorem dX5_noRule_7 : decode cX5_noRule 7 = .ok (.isub, 1) := by decide +kernel
theorem dX5_noRule_8 : decode cX5_noRule 8 = .ok (.invokestatic 98, 3) := by decide +kernel
theorem dX5_noRule_11 : decode cX5_noRule 11 = .ok (.ifCond .ne 7, 3) := by decide +kernel
theorem dX5_noRule_14 : decode cX5_noRule 14 = .ok (.iconst 1, 1) := by decide +kernel
theorem dX5_noRule_15 : decode cX5_noRule 15 = .ok (.goto 4, 3) := by decide +kernel
theorem dX5_noRule_18 : decode cX5_noRule 18 = .ok (.iconst 0, 1) := by decide +kernel
theorem dX5_noRule_19 : decode cX5_noRule 19 = .ok (.ireturn, 1) := by decide +kernel
theorem dX5_noList_0 : decode cX5_noList 0 = .ok (.iload_n 1, 1) := by decide +kernel
theorem dX5_noList_1 : decode cX5_noList 1 = .ok (.iconst 0, 1) := by decide +kernel
theorem dX5_noList_2 : decode cX5_noList 2 = .ok (.aload_n 0, 1) := by decide +kernel
theorem dX5_noList_3 : decode cX5_noList 3 = .ok (.getfield 108, 3) := by decide +kernel
theorem dX5_noList_6 : decode cX5_noList 6 = .ok (.iconst 1, 1) := by decide +kernel
theorem dX5_noList_7 : decode cX5_noList 7 = .ok (.isub, 1) := by decide +kernel
theorem dX5_noList_8 : decode cX5_noList 8 = .ok (.invokestatic 98, 3) := by decide +kernel
theorem dX5_noList_11 : decode cX5_noList 11 = .ok (.ifCond .ne 7, 3) := by decide +kernel
theorem dX5_noList_14 : decode cX5_noList 14 = .ok (.iconst 1, 1) := by decide +kernel
theorem dX5_noList_15 : decode cX5_noList 15 = .ok (.goto 4, 3) := by decide +kernel
theorem dX5_noList_18 : decode cX5_noList 18 = .ok (.iconst 0, 1) := by decide +kernel
theorem dX5_noList_19 : decode cX5_noList 19 = .ok (.ireturn, 1) := by decide +kernel
theorem dX5_holdsFor_0 : decode cX5_holdsFor 0 = .ok (.aload_n 0, 1) := by decide +kernel
theorem dX5_holdsFor_1 : decode cX5_holdsFor 1 = .ok (.getfield 42, 3) := by decide +kernel
theorem dX5_holdsFor_4 : decode cX5_holdsFor 4 = .ok (.iload_n 1, 1) := by decide +kernel
theorem dX5_holdsFor_5 : decode cX5_holdsFor 5 = .ok (.iaload, 1) := by decide +kernel
theorem dX5_holdsFor_6 : decode cX5_holdsFor 6 = .ok (.istore_n 3, 1) := by decide +kernel
theorem dX5_holdsFor_7 : decode cX5_holdsFor 7 = .ok (.aload_n 0, 1) := by decide +kernel
theorem dX5_holdsFor_8 : decode cX5_holdsFor 8 = .ok (.getfield 39, 3) := by decide +kernel
theorem dX5_holdsFor_11 : decode cX5_holdsFor 11 = .ok (.iload_n 1, 1) := by decide +kernel
theorem dX5_holdsFor_12 : decode cX5_holdsFor 12 = .ok (.iaload, 1) := by decide +kernel
theorem dX5_holdsFor_13 : decode cX5_holdsFor 13 = .ok (.tableswitch 228 0 7 #[47, 67, 83, 99, 115, 145, 170, 199], 47) := by decide +kernel
theorem dX5_holdsFor_60 : decode cX5_holdsFor 60 = .ok (.aload_n 0, 1) := by decide +kernel
theorem dX5_holdsFor_61 : decode cX5_holdsFor 61 = .ok (.getfield 22, 3) := by decide +kernel
theorem dX5_holdsFor_64 : decode cX5_holdsFor 64 = .ok (.iload_n 2, 1) := by decide +kernel
theorem dX5_holdsFor_65 : decode cX5_holdsFor 65 = .ok (.iaload, 1) := by decide +kernel
theorem dX5_holdsFor_66 : decode cX5_holdsFor 66 = .ok (.iload_n 3, 1) := by decide +kernel
theorem dX5_holdsFor_67 : decode cX5_holdsFor 67 = .ok (.ishr, 1) := by decide +kernel
theorem dX5_holdsFor_68 : decode cX5_holdsFor 68 = .ok (.iconst 1, 1) := by decide +kernel
theorem dX5_holdsFor_69 : decode cX5_holdsFor 69 = .ok (.iand, 1) := by decide +kernel
theorem dX5_holdsFor_70 : decode cX5_holdsFor 70 = .ok (.iconst 1, 1) := by decide +kernel
theorem dX5_holdsFor_71 : decode cX5_holdsFor 71 = .ok (.if_icmp .ne 7, 3) := by decide +kernel
theorem dX5_holdsFor_74 : decode cX5_holdsFor 74 = .ok (.iconst 1, 1) := by decide +kernel
theorem dX5_holdsFor_75 : decode cX5_holdsFor 75 = .ok (.goto 4, 3) := by decide +kernel
theorem dX5_holdsFor_78 : decode cX5_holdsFor 78 = .ok (.iconst 0, 1) := by decide +kernel
theorem dX5_holdsFor_79 : decode cX5_holdsFor 79 = .ok (.ireturn, 1) := by decide +kernel
theorem dX5_holdsFor_80 : decode cX5_holdsFor 80 = .ok (.aload_n 0, 1) := by decide +kernel
theorem dX5_holdsFor_81 : decode cX5_holdsFor 81 = .ok (.getfield 13, 3) := by decide +kernel
theorem dX5_holdsFor_84 : decode cX5_holdsFor 84 = .ok (.iload_n 2, 1) := by decide +kernel
theorem dX5_holdsFor_85 : decode cX5_holdsFor 85 = .ok (.iaload, 1) := by decide +kernel
theorem dX5_holdsFor_86 : decode cX5_holdsFor 86 = .ok (.iload_n 3, 1) := by decide +kernel
theorem dX5_holdsFor_87 : decode cX5_holdsFor 87 = .ok (.if_icmp .lt 7, 3) := by decide +kernel
theorem dX5_holdsFor_90 : decode cX5_holdsFor 90 = .ok (.iconst 1, 1) := by decide +kernel
theorem dX5_holdsFor_91 : decode cX5_holdsFor 91 = .ok (.goto 4, 3) := by decide +kernel
theorem dX5_holdsFor_94 : decode cX5_holdsFor 94 = .ok (.iconst 0, 1) := by decide +kernel
theorem dX5_holdsFor_95 : decode cX5_holdsFor 95 = .ok (.ireturn, 1) := by decide +kernel
theorem dX5_holdsFor_96 : decode cX5_holdsFor 96 = .ok (.aload_n 0, 1) := by decide +kernel
theorem dX5_holdsFor_97 : decode cX5_holdsFor 97 = .ok (.getfield 16, 3) := by decide +kernel
theorem dX5_holdsFor_100 : decode cX5_holdsFor 100 = .ok (.iload_n 2, 1) := by decide +kernel
theorem dX5_holdsFor_101 : decode cX5_holdsFor 101 = .ok (.iaload, 1) := by decide +kernel
theorem dX5_holdsFor_102 : decode cX5_holdsFor 102 = .ok (.iload_n 3, 1) := by decide +kernel
theorem dX5_holdsFor_103 : decode cX5_holdsFor 103 = .ok (.if_icmp .gt 7, 3) := by decide +kernel
theorem dX5_holdsFor_106 : decode cX5_holdsFor 106 = .ok (.iconst 1, 1) := by decide +kernel
theorem dX5_holdsFor_107 : decode cX5_holdsFor 107 = .ok (.goto 4, 3) := by decide +kernel
theorem dX5_holdsFor_110 : decode cX5_holdsFor 110 = .ok (.iconst 0, 1) := by decide +kernel
theorem dX5_holdsFor_111 : decode cX5_holdsFor 111 = .ok (.ireturn, 1) := by decide +kernel
theorem dX5_holdsFor_112 : decode cX5_holdsFor 112 = .ok (.aload_n 0, 1) := by decide +kernel
theorem dX5_holdsFor_113 : decode cX5_holdsFor 113 = .ok (.getfield 7, 3) := by decide +kernel
theorem dX5_holdsFor_116 : decode cX5_holdsFor 116 = .ok (.iload_n 2, 1) := by decide +kernel
theorem dX5_holdsFor_117 : decode cX5_holdsFor 117 = .ok (.iaload, 1) := by decide +kernel
theorem dX5_holdsFor_118 : decode cX5_holdsFor 118 = .ok (.iload_n 3, 1) := by decide +kernel
theorem dX5_holdsFor_119 : decode cX5_holdsFor 119 = .ok (.if_icmp .gt 7, 3) := by decide +kernel
theorem dX5_holdsFor_122 : decode cX5_holdsFor 122 = .ok (.iconst 1, 1) := by decide +kernel
theorem dX5_holdsFor_123 : decode cX5_holdsFor 123 = .ok (.goto 4, 3) := by decide +kernel
theorem dX5_holdsFor_126 : decode cX5_holdsFor 126 = .ok (.iconst 0, 1) := by decide +kernel
theorem dX5_holdsFor_127 : decode cX5_holdsFor 127 = .ok (.ireturn, 1) := by decide +kernel
theorem dX5_holdsFor_128 : decode cX5_holdsFor 128 = .ok (.aload_n 0, 1) := by decide +kernel
theorem dX5_holdsFor_129 : decode cX5_holdsFor 129 = .ok (.getfield 16, 3) := by decide +kernel
theorem dX5_holdsFor_132 : decode cX5_holdsFor 132 = .ok (.iload_n 2, 1) := by decide +kernel
theorem dX5_holdsFor_133 : decode cX5_holdsFor 133 = .ok (.iaload, 1) := by decide +kernel
theorem dX5_holdsFor_134 : decode cX5_holdsFor 134 = .ok (.ifCond .le 22, 3) := by decide +kernel
theorem dX5_holdsFor_137 : decode cX5_holdsFor 137 = .ok (.aload_n 0, 1) := by decide +kernel
theorem dX5_holdsFor_138 : decode cX5_holdsFor 138 = .ok (.getfield 111, 3) := by decide +kernel
theorem dX5_holdsFor_141 : decode cX5_holdsFor 141 = .ok (.aload_n 0, 1) := by decide +kernel
theorem dX5_holdsFor_142 : decode cX5_holdsFor 142 = .ok (.getfield 19, 3) := by decide +kernel
theorem dX5_holdsFor_145 : decode cX5_holdsFor 145 = .ok (.iload_n 2, 1) := by decide +kernel
theorem dX5_holdsFor_146 : decode cX5_holdsFor 146 = .ok (.iaload, 1) := by decide +kernel
theorem dX5_holdsFor_147 : decode cX5_holdsFor 147 = .ok (.isub, 1) := by decide +kernel
theorem dX5_holdsFor_148 : decode cX5_holdsFor 148 = .ok (.iload_n 3, 1) := by decide +kernel
theorem dX5_holdsFor_149 : decode cX5_holdsFor 149 = .ok (.if_icmp .gt 7, 3) := by decide +kernel
theorem dX5_holdsFor_152 : decode cX5_holdsFor 152 = .ok (.iconst 1, 1) := by decide +kernel
theorem dX5_holdsFor_153 : decode cX5_holdsFor 153 = .ok (.goto 4, 3) := by decide +kernel
theorem dX5_holdsFor_156 : decode cX5_holdsFor 156 = .ok (.iconst 0, 1) := by decide +kernel
theorem dX5_holdsFor_157 : decode cX5_holdsFor 157 = .ok (.ireturn, 1) := by decide +kernel
theorem dX5_holdsFor_158 : decode cX5_holdsFor 158 = .ok (.aload_n 0, 1) := by decide +kernel
theorem dX5_holdsFor_159 : decode cX5_holdsFor 159 = .ok (.iload_n 3, 1) := by decide +kernel
theorem dX5_holdsFor_160 : decode cX5_holdsFor 160 = .ok (.invokevirtual 114, 3) := by decide +kernel
theorem dX5_holdsFor_163 : decode cX5_holdsFor 163 = .ok (.aload_n 0, 1) := by decide +kernel
theorem dX5_holdsFor_164 : decode cX5_holdsFor 164 = .ok (.getfield 60, 3) := by decide +kernel
theorem dX5_holdsFor_167 : decode cX5_holdsFor 167 = .ok (.iload_n 3, 1) := by decide +kernel
theorem dX5_holdsFor_168 : decode cX5_holdsFor 168 = .ok (.iaload, 1) := by decide +kernel
theorem dX5_holdsFor_169 : decode cX5_holdsFor 169 = .ok (.iload_n 2, 1) := by decide +kernel
theorem dX5_holdsFor_170 : decode cX5_holdsFor 170 = .ok (.ishr, 1) := by decide +kernel
theorem dX5_holdsFor_171 : decode cX5_holdsFor 171 = .ok (.iconst 1, 1) := by decide +kernel
theorem dX5_holdsFor_172 : decode cX5_holdsFor 172 = .ok (.iand, 1) := by decide +kernel
theorem dX5_holdsFor_173 : decode cX5_holdsFor 173 = .ok (.iconst 1, 1) := by decide +kernel
theorem dX5_holdsFor_174 : decode cX5_holdsFor 174 = .ok (.if_icmp .ne 7, 3) := by decide +kernel
theorem dX5_holdsFor_177 : decode cX5_holdsFor 177 = .ok (.iconst 1, 1) := by decide +kernel
theorem dX5_holdsFor_178 : decode cX5_holdsFor 178 = .ok (.goto 4, 3) := by decide +kernel
theorem dX5_holdsFor_181 : decode cX5_holdsFor 181 = .ok (.iconst 0, 1) := by decide +kernel
theorem dX5_holdsFor_182 : decode cX5_holdsFor 182 = .ok (.ireturn, 1) := by decide +kernel
theorem dX5_holdsFor_183 : decode cX5_holdsFor 183 = .ok (.aload_n 0, 1) := by decide +kernel
theorem dX5_holdsFor_184 : decode cX5_holdsFor 184 = .ok (.iload_n 3, 1) := by decide +kernel
theorem dX5_holdsFor_185 : decode cX5_holdsFor 185 = .ok (.iload_n 2, 1) := by decide +kernel
theorem dX5_holdsFor_186 : decode cX5_holdsFor 186 = .ok (.invokevirtual 118, 3) := by decide +kernel
theorem dX5_holdsFor_189 : decode cX5_holdsFor 189 = .ok (.ifCond .eq 21, 3) := by decide +kernel
theorem dX5_holdsFor_192 : decode cX5_holdsFor 192 = .ok (.aload_n 0, 1) := by decide +kernel
theorem dX5_holdsFor_193 : decode cX5_holdsFor 193 = .ok (.aload_n 0, 1) := by decide +kernel
theorem dX5_holdsFor_194 : decode cX5_holdsFor 194 = .ok (.getfield 45, 3) := by decide +kernel
theorem dX5_holdsFor_197 : decode cX5_holdsFor 197 = .ok (.iload_n 1, 1) := by decide +kernel
theorem dX5_holdsFor_198 : decode cX5_holdsFor 198 = .ok (.iaload, 1) := by decide +kernel
theorem dX5_holdsFor_199 : decode cX5_holdsFor 199 = .ok (.iload_n 2, 1) := by decide +kernel
theorem dX5_holdsFor_200 : decode cX5_holdsFor 200 = .ok (.invokevirtual 118, 3) := by decide +kernel
theorem dX5_holdsFor_203 : decode cX5_holdsFor 203 = .ok (.ifCond .eq 7, 3) := by decide +kernel
theorem dX5_holdsFor_206 : decode cX5_holdsFor 206 = .ok (.iconst 1, 1) := by decide +kernel
theorem dX5_holdsFor_207 : decode cX5_holdsFor 207 = .ok (.goto 4, 3) := by decide +kernel
theorem dX5_holdsFor_210 : decode cX5_holdsFor 210 = .ok (.iconst 0, 1) := by decide +kernel
theorem dX5_holdsFor_211 : decode cX5_holdsFor 211 = .ok (.ireturn, 1) := by decide +kernel
theorem dX5_holdsFor_212 : decode cX5_holdsFor 212 = .ok (.aload_n 0, 1) := by decide +kernel
theorem dX5_holdsFor_213 : decode cX5_holdsFor 213 = .ok (.iload_n 3, 1) := by decide +kernel
theorem dX5_holdsFor_214 : decode cX5_holdsFor 214 = .ok (.iload_n 2, 1) := by decide +kernel
theorem dX5_holdsFor_215 : decode cX5_holdsFor 215 = .ok (.invokevirtual 118, 3) := by decide +kernel
theorem dX5_holdsFor_218 : decode cX5_holdsFor 218 = .ok (.ifCond .ne 17, 3) := by decide +kernel
theorem dX5_holdsFor_221 : decode cX5_holdsFor 221 = .ok (.aload_n 0, 1) := by decide +kernel
theorem dX5_holdsFor_222 : decode cX5_holdsFor 222 = .ok (.aload_n 0, 1) := by decide +kernel
theorem dX5_holdsFor_223 : decode cX5_holdsFor 223 = .ok (.getfield 45, 3) := by decide +kernel
theorem dX5_holdsFor_226 : decode cX5_holdsFor 226 = .ok (.iload_n 1, 1) := by decide +kernel
theorem dX5_holdsFor_227 : decode cX5_holdsFor 227 = .ok (.iaload, 1) := by decide +kernel
theorem dX5_holdsFor_228 : decode cX5_holdsFor 228 = .ok (.iload_n 2, 1) := by decide +kernel
theorem dX5_holdsFor_229 : decode cX5_holdsFor 229 = .ok (.invokevirtual 118, 3) := by decide +kernel
theorem dX5_holdsFor_232 : decode cX5_holdsFor 232 = .ok (.ifCond .eq 7, 3) := by decide +kernel
theorem dX5_holdsFor_235 : decode cX5_holdsFor 235 = .ok (.iconst 1, 1) := by decide +kernel
theorem dX5_holdsFor_236 : decode cX5_holdsFor 236 = .ok (.goto 4, 3) := by decide +kernel
theorem dX5_holdsFor_239 : decode cX5_holdsFor 239 = .ok (.iconst 0, 1) := by decide +kernel
theorem dX5_holdsFor_240 : decode cX5_holdsFor 240 = .ok (.ireturn, 1) := by decide +kernel
theorem dX5_holdsFor_241 : decode cX5_holdsFor 241 = .ok (.aload_n 0, 1) := by decide +kernel
theorem dX5_holdsFor_242 : decode cX5_holdsFor 242 = .ok (.iload_n 3, 1) := by decide +kernel
theorem dX5_holdsFor_243 : decode cX5_holdsFor 243 = .ok (.iload_n 2, 1) := by decide +kernel
theorem dX5_holdsFor_244 : decode cX5_holdsFor 244 = .ok (.invokevirtual 118, 3) := by decide +kernel
theorem dX5_holdsFor_247 : decode cX5_holdsFor 247 = .ok (.ifCond .ne 7, 3) := by decide +kernel
theorem dX5_holdsFor_250 : decode cX5_holdsFor 250 = .ok (.iconst 1, 1) := by decide +kernel
theorem dX5_holdsFor_251 : decode cX5_holdsFor 251 = .ok (.goto 4, 3) := by decide +kernel
theorem dX5_holdsFor_254 : decode cX5_holdsFor 254 = .ok (.iconst 0, 1) := by decide +kernel
theorem dX5_holdsFor_255 : decode cX5_holdsFor 255 = .ok (.ireturn, 1) := by decide +kernel
theorem dX5_isAhead_0 : decode cX5_isAhead 0 = .ok (.iload_n 1, 1) := by decide +kernel
theorem dX5_isAhead_1 : decode cX5_isAhead 1 = .ok (.bipush 115, 2) := by decide +kernel
theorem dX5_isAhead_3 : decode cX5_isAhead 3 = .ok (.if_icmp .ne 12, 3) := by decide +kernel
theorem dX5_isAhead_6 : decode cX5_isAhead 6 = .ok (.aload_n 0, 1) := by decide +kernel
theorem dX5_isAhead_7 : decode cX5_isAhead 7 = .ok (.getfield 7, 3) := by decide +kernel
theorem dX5_isAhead_10 : decode cX5_isAhead 10 = .ok (.iload_n 2, 1) := by decide +kernel
theorem dX5_isAhead_11 : decode cX5_isAhead 11 = .ok (.iaload, 1) := by decide +kernel
theorem dX5_isAhead_12 : decode cX5_isAhead 12 = .ok (.goto 36, 3) := by decide +kernel
theorem dX5_isAhead_15 : decode cX5_isAhead 15 = .ok (.iload_n 1, 1) := by decide +kernel
theorem dX5_isAhead_16 : decode cX5_isAhead 16 = .ok (.bipush 114, 2) := by decide +kernel
theorem dX5_isAhead_18 : decode cX5_isAhead 18 = .ok (.if_icmp .ne 13, 3) := by decide +kernel
theorem dX5_isAhead_21 : decode cX5_isAhead 21 = .ok (.aload_n 0, 1) := by decide +kernel
theorem dX5_isAhead_22 : decode cX5_isAhead 22 = .ok (.getfield 13, 3) := by decide +kernel
theorem dX5_isAhead_25 : decode cX5_isAhead 25 = .ok (.iload_n 2, 1) := by decide +kernel
theorem dX5_isAhead_26 : decode cX5_isAhead 26 = .ok (.iaload, 1) := by decide +kernel
theorem dX5_isAhead_27 : decode cX5_isAhead 27 = .ok (.ineg, 1) := by decide +kernel
theorem dX5_isAhead_28 : decode cX5_isAhead 28 = .ok (.goto 20, 3) := by decide +kernel
theorem dX5_isAhead_31 : decode cX5_isAhead 31 = .ok (.iload_n 1, 1) := by decide +kernel
theorem dX5_isAhead_32 : decode cX5_isAhead 32 = .ok (.bipush 112, 2) := by decide +kernel
theorem dX5_isAhead_34 : decode cX5_isAhead 34 = .ok (.if_icmp .ne 12, 3) := by decide +kernel
theorem dX5_isAhead_37 : decode cX5_isAhead 37 = .ok (.aload_n 0, 1) := by decide +kernel
theorem dX5_isAhead_38 : decode cX5_isAhead 38 = .ok (.getfield 16, 3) := by decide +kernel
theorem dX5_isAhead_41 : decode cX5_isAhead 41 = .ok (.iload_n 2, 1) := by decide +kernel
theorem dX5_isAhead_42 : decode cX5_isAhead 42 = .ok (.iaload, 1) := by decide +kernel
theorem dX5_isAhead_43 : decode cX5_isAhead 43 = .ok (.goto 5, 3) := by decide +kernel
theorem dX5_isAhead_46 : decode cX5_isAhead 46 = .ok (.iload_n 2, 1) := by decide +kernel
theorem dX5_isAhead_47 : decode cX5_isAhead 47 = .ok (.ineg, 1) := by decide +kernel
theorem dX5_isAhead_48 : decode cX5_isAhead 48 = .ok (.istore 4, 2) := by decide +kernel
theorem dX5_isAhead_50 : decode cX5_isAhead 50 = .ok (.iload_n 1, 1) := by decide +kernel
theorem dX5_isAhead_51 : decode cX5_isAhead 51 = .ok (.bipush 115, 2) := by decide +kernel
theorem dX5_isAhead_53 : decode cX5_isAhead 53 = .ok (.if_icmp .ne 12, 3) := by decide +kernel
theorem dX5_isAhead_56 : decode cX5_isAhead 56 = .ok (.aload_n 0, 1) := by decide +kernel
theorem dX5_isAhead_57 : decode cX5_isAhead 57 = .ok (.getfield 7, 3) := by decide +kernel
theorem dX5_isAhead_60 : decode cX5_isAhead 60 = .ok (.iload_n 3, 1) := by decide +kernel
theorem dX5_isAhead_61 : decode cX5_isAhead 61 = .ok (.iaload, 1) := by decide +kernel
theorem dX5_isAhead_62 : decode cX5_isAhead 62 = .ok (.goto 36, 3) := by decide +kernel
theorem dX5_isAhead_65 : decode cX5_isAhead 65 = .ok (.iload_n 1, 1) := by decide +kernel
theorem dX5_isAhead_66 : decode cX5_isAhead 66 = .ok (.bipush 114, 2) := by decide +kernel
theorem dX5_isAhead_68 : decode cX5_isAhead 68 = .ok (.if_icmp .ne 13, 3) := by decide +kernel
theorem dX5_isAhead_71 : decode cX5_isAhead 71 = .ok (.aload_n 0, 1) := by decide +kernel
theorem dX5_isAhead_72 : decode cX5_isAhead 72 = .ok (.getfield 13, 3) := by decide +kernel
theorem dX5_isAhead_75 : decode cX5_isAhead 75 = .ok (.iload_n 3, 1) := by decide +kernel
theorem dX5_isAhead_76 : decode cX5_isAhead 76 = .ok (.iaload, 1) := by decide +kernel
theorem dX5_isAhead_77 : decode cX5_isAhead 77 = .ok (.ineg, 1) := by decide +kernel
theorem dX5_isAhead_78 : decode cX5_isAhead 78 = .ok (.goto 20, 3) := by decide +kernel
theorem dX5_isAhead_81 : decode cX5_isAhead 81 = .ok (.iload_n 1, 1) := by decide +kernel
theorem dX5_isAhead_82 : decode cX5_isAhead 82 = .ok (.bipush 112, 2) := by decide +kernel
theorem dX5_isAhead_84 : decode cX5_isAhead 84 = .ok (.if_icmp .ne 12, 3) := by decide +kernel
theorem dX5_isAhead_87 : decode cX5_isAhead 87 = .ok (.aload_n 0, 1) := by decide +kernel
theorem dX5_isAhead_88 : decode cX5_isAhead 88 = .ok (.getfield 16, 3) := by decide +kernel
theorem dX5_isAhead_91 : decode cX5_isAhead 91 = .ok (.iload_n 3, 1) := by decide +kernel
theorem dX5_isAhead_92 : decode cX5_isAhead 92 = .ok (.iaload, 1) := by decide +kernel
theorem dX5_isAhead_93 : decode cX5_isAhead 93 = .ok (.goto 5, 3) := by decide +kernel
theorem dX5_isAhead_96 : decode cX5_isAhead 96 = .ok (.iload_n 3, 1) := by decide +kernel
theorem dX5_isAhead_97 : decode cX5_isAhead 97 = .ok (.ineg, 1) := by decide +kernel
theorem dX5_isAhead_98 : decode cX5_isAhead 98 = .ok (.istore 5, 2) := by decide +kernel
theorem dX5_isAhead_100 : decode cX5_isAhead 100 = .ok (.iload 4, 2) := by decide +kernel
theorem dX5_isAhead_102 : decode cX5_isAhead 102 = .ok (.iload 5, 2) := by decide +kernel
theorem dX5_isAhead_104 : decode cX5_isAhead 104 = .ok (.if_icmp .eq 18, 3) := by decide +kernel
theorem dX5_isAhead_107 : decode cX5_isAhead 107 = .ok (.iload 4, 2) := by decide +kernel
theorem dX5_isAhead_109 : decode cX5_isAhead 109 = .ok (.iload 5, 2) := by decide +kernel
theorem dX5_isAhead_111 : decode cX5_isAhead 111 = .ok (.if_icmp .ge 7, 3) := by decide +kernel
theorem dX5_isAhead_114 : decode cX5_isAhead 114 = .ok (.iconst 1, 1) := by decide +kernel
theorem dX5_isAhead_115 : decode cX5_isAhead 115 = .ok (.goto 17, 3) := by decide +kernel
theorem dX5_isAhead_118 : decode cX5_isAhead 118 = .ok (.iconst 0, 1) := by decide +kernel
theorem dX5_isAhead_119 : decode cX5_isAhead 119 = .ok (.goto 13, 3) := by decide +kernel
theorem dX5_isAhead_122 : decode cX5_isAhead 122 = .ok (.iload_n 2, 1) := by decide +kernel
theorem dX5_isAhead_123 : decode cX5_isAhead 123 = .ok (.iload_n 3, 1) := by decide +kernel
theorem dX5_isAhead_124 : decode cX5_isAhead 124 = .ok (.if_icmp .ge 7, 3) := by decide +kernel
theorem dX5_isAhead_127 : decode cX5_isAhead 127 = .ok (.iconst 1, 1) := by decide +kernel
theorem dX5_isAhead_128 : decode cX5_isAhead 128 = .ok (.goto 4, 3) := by decide +kernel
theorem dX5_isAhead_131 : decode cX5_isAhead 131 = .ok (.iconst 0, 1) := by decide +kernel
theorem dX5_isAhead_132 : decode cX5_isAhead 132 = .ok (.ireturn, 1) := by decide +kernel
theorem dX5_isMatch_0 : decode cX5_isMatch 0 = .ok (.aload_n 0, 1) := by decide +kernel
theorem dX5_isMatch_1 : decode cX5_isMatch 1 = .ok (.getfield 25, 3) := by decide +kernel
theorem dX5_isMatch_4 : decode cX5_isMatch 4 = .ok (.iload_n 2, 1) := by decide +kernel
theorem dX5_isMatch_5 : decode cX5_isMatch 5 = .ok (.baload, 1) := by decide +kernel
theorem dX5_isMatch_6 : decode cX5_isMatch 6 = .ok (.ifCond .ne 21, 3) := by decide +kernel
theorem dX5_isMatch_9 : decode cX5_isMatch 9 = .ok (.aload_n 0, 1) := by decide +kernel
theorem dX5_isMatch_10 : decode cX5_isMatch 10 = .ok (.aload_n 0, 1) := by decide +kernel
theorem dX5_isMatch_11 : decode cX5_isMatch 11 = .ok (.getfield 51, 3) := by decide +kernel
theorem dX5_isMatch_14 : decode cX5_isMatch 14 = .ok (.iload_n 1, 1) := by decide +kernel
theorem dX5_isMatch_15 : decode cX5_isMatch 15 = .ok (.iaload, 1) := by decide +kernel
theorem dX5_isMatch_16 : decode cX5_isMatch 16 = .ok (.iload_n 2, 1) := by decide +kernel
theorem dX5_isMatch_17 : decode cX5_isMatch 17 = .ok (.invokevirtual 118, 3) := by decide +kernel
theorem dX5_isMatch_20 : decode cX5_isMatch 20 = .ok (.ifCond .eq 7, 3) := by decide +kernel
theorem dX5_isMatch_23 : decode cX5_isMatch 23 = .ok (.iconst 1, 1) := by decide +kernel
theorem dX5_isMatch_24 : decode cX5_isMatch 24 = .ok (.goto 4, 3) := by decide +kernel
theorem dX5_isMatch_27 : decode cX5_isMatch 27 = .ok (.iconst 0, 1) := by decide +kernel
theorem dX5_isMatch_28 : decode cX5_isMatch 28 = .ok (.ireturn, 1) := by decide +kernel
theorem dX5_fill_0 : decode cX5_fill 0 = .ok (.aload_n 0, 1) := by decide +kernel
theorem dX5_fill_1 : decode cX5_fill 1 = .ok (.getfield 72, 3) := by decide +kernel
theorem dX5_fill_4 : decode cX5_fill 4 = .ok (.iload_n 1, 1) := by decide +kernel
theorem dX5_fill_5 : decode cX5_fill 5 = .ok (.baload, 1) := by decide +kernel
theorem dX5_fill_6 : decode cX5_fill 6 = .ok (.ifCond .eq 4, 3) := by decide +kernel
theorem dX5_fill_9 : decode cX5_fill 9 = .ok (.return_, 1) := by decide +kernel
theorem dX5_fill_10 : decode cX5_fill 10 = .ok (.aload_n 0, 1) := by decide +kernel
theorem dX5_fill_11 : decode cX5_fill 11 = .ok (.getfield 72, 3) := by decide +kernel
theorem dX5_fill_14 : decode cX5_fill 14 = .ok (.iload_n 1, 1) := by decide +kernel
theorem dX5_fill_15 : decode cX5_fill 15 = .ok (.iconst 1, 1) := by decide +kernel
theorem dX5_fill_16 : decode cX5_fill 16 = .ok (.bastore, 1) := by decide +kernel
theorem dX5_fill_17 : decode cX5_fill 17 = .ok (.iconst 0, 1) := by decide +kernel
theorem dX5_fill_18 : decode cX5_fill 18 = .ok (.istore_n 2, 1) := by decide +kernel
theorem dX5_fill_19 : decode cX5_fill 19 = .ok (.iconst 0, 1) := by decide +kernel
theorem dX5_fill_20 : decode cX5_fill 20 = .ok (.istore_n 3, 1) := by decide +kernel
theorem dX5_fill_21 : decode cX5_fill 21 = .ok (.iload_n 3, 1) := by decide +kernel
theorem dX5_fill_22 : decode cX5_fill 22 = .ok (.aload_n 0, 1) := by decide +kernel
theorem dX5_fill_23 : decode cX5_fill 23 = .ok (.getfield 95, 3) := by decide +kernel
theorem dX5_fill_26 : decode cX5_fill 26 = .ok (.if_icmp .ge 28, 3) := by decide +kernel
theorem dX5_fill_29 : decode cX5_fill 29 = .ok (.iload_n 2, 1) := by decide +kernel
theorem dX5_fill_30 : decode cX5_fill 30 = .ok (.aload_n 0, 1) := by decide +kernel
theorem dX5_fill_31 : decode cX5_fill 31 = .ok (.iload_n 1, 1) := by decide +kernel
theorem dX5_fill_32 : decode cX5_fill 32 = .ok (.iload_n 3, 1) := by decide +kernel
theorem dX5_fill_33 : decode cX5_fill 33 = .ok (.invokevirtual 122, 3) := by decide +kernel
theorem dX5_fill_36 : decode cX5_fill 36 = .ok (.ifCond .eq 9, 3) := by decide +kernel
theorem dX5_fill_39 : decode cX5_fill 39 = .ok (.iconst 1, 1) := by decide +kernel
theorem dX5_fill_40 : decode cX5_fill 40 = .ok (.iload_n 3, 1) := by decide +kernel
theorem dX5_fill_41 : decode cX5_fill 41 = .ok (.ishl, 1) := by decide +kernel
theorem dX5_fill_42 : decode cX5_fill 42 = .ok (.goto 4, 3) := by decide +kernel
theorem dX5_fill_45 : decode cX5_fill 45 = .ok (.iconst 0, 1) := by decide +kernel
theorem dX5_fill_46 : decode cX5_fill 46 = .ok (.ior, 1) := by decide +kernel
theorem dX5_fill_47 : decode cX5_fill 47 = .ok (.istore_n 2, 1) := by decide +kernel
theorem dX5_fill_48 : decode cX5_fill 48 = .ok (.iinc 3 1, 3) := by decide +kernel
theorem dX5_fill_51 : decode cX5_fill 51 = .ok (.goto (-30), 3) := by decide +kernel
theorem dX5_fill_54 : decode cX5_fill 54 = .ok (.aload_n 0, 1) := by decide +kernel
theorem dX5_fill_55 : decode cX5_fill 55 = .ok (.getfield 60, 3) := by decide +kernel
theorem dX5_fill_58 : decode cX5_fill 58 = .ok (.iload_n 1, 1) := by decide +kernel
theorem dX5_fill_59 : decode cX5_fill 59 = .ok (.iconst 0, 1) := by decide +kernel
theorem dX5_fill_60 : decode cX5_fill 60 = .ok (.iastore, 1) := by decide +kernel
theorem dX5_fill_61 : decode cX5_fill 61 = .ok (.aload_n 0, 1) := by decide +kernel
theorem dX5_fill_62 : decode cX5_fill 62 = .ok (.getfield 69, 3) := by decide +kernel
theorem dX5_fill_65 : decode cX5_fill 65 = .ok (.iload_n 1, 1) := by decide +kernel
theorem dX5_fill_66 : decode cX5_fill 66 = .ok (.iconst 0, 1) := by decide +kernel
theorem dX5_fill_67 : decode cX5_fill 67 = .ok (.iastore, 1) := by decide +kernel
theorem dX5_fill_68 : decode cX5_fill 68 = .ok (.iconst 0, 1) := by decide +kernel
theorem dX5_fill_69 : decode cX5_fill 69 = .ok (.istore_n 3, 1) := by decide +kernel
theorem dX5_fill_70 : decode cX5_fill 70 = .ok (.iload_n 2, 1) := by decide +kernel
theorem dX5_fill_71 : decode cX5_fill 71 = .ok (.ifCond .eq 168, 3) := by decide +kernel
theorem dX5_fill_74 : decode cX5_fill 74 = .ok (.iconst (-1), 1) := by decide +kernel
theorem dX5_fill_75 : decode cX5_fill 75 = .ok (.istore 4, 2) := by decide +kernel
theorem dX5_fill_77 : decode cX5_fill 77 = .ok (.iconst 0, 1) := by decide +kernel
theorem dX5_fill_78 : decode cX5_fill 78 = .ok (.istore 5, 2) := by decide +kernel
theorem dX5_fill_80 : decode cX5_fill 80 = .ok (.iload 5, 2) := by decide +kernel
theorem dX5_fill_82 : decode cX5_fill 82 = .ok (.aload_n 0, 1) := by decide +kernel
theorem dX5_fill_83 : decode cX5_fill 83 = .ok (.getfield 95, 3) := by decide +kernel
theorem dX5_fill_86 : decode cX5_fill 86 = .ok (.if_icmp .ge 63, 3) := by decide +kernel
theorem dX5_fill_89 : decode cX5_fill 89 = .ok (.iload_n 2, 1) := by decide +kernel
theorem dX5_fill_90 : decode cX5_fill 90 = .ok (.iload 5, 2) := by decide +kernel
theorem dX5_fill_92 : decode cX5_fill 92 = .ok (.ishr, 1) := by decide +kernel
theorem dX5_fill_93 : decode cX5_fill 93 = .ok (.iconst 1, 1) := by decide +kernel
theorem dX5_fill_94 : decode cX5_fill 94 = .ok (.iand, 1) := by decide +kernel
theorem dX5_fill_95 : decode cX5_fill 95 = .ok (.iconst 1, 1) := by decide +kernel
theorem dX5_fill_96 : decode cX5_fill 96 = .ok (.if_icmp .ne 7, 3) := by decide +kernel
theorem dX5_fill_99 : decode cX5_fill 99 = .ok (.iconst 1, 1) := by decide +kernel
theorem dX5_fill_100 : decode cX5_fill 100 = .ok (.goto 4, 3) := by decide +kernel
theorem dX5_fill_103 : decode cX5_fill 103 = .ok (.iconst 0, 1) := by decide +kernel
theorem dX5_fill_104 : decode cX5_fill 104 = .ok (.istore 6, 2) := by decide +kernel
theorem dX5_fill_106 : decode cX5_fill 106 = .ok (.iload 6, 2) := by decide +kernel
theorem dX5_fill_108 : decode cX5_fill 108 = .ok (.ifCond .eq 31, 3) := by decide +kernel
theorem dX5_fill_111 : decode cX5_fill 111 = .ok (.iload 4, 2) := by decide +kernel
theorem dX5_fill_113 : decode cX5_fill 113 = .ok (.iconst (-1), 1) := by decide +kernel
theorem dX5_fill_114 : decode cX5_fill 114 = .ok (.if_icmp .eq 20, 3) := by decide +kernel
theorem dX5_fill_117 : decode cX5_fill 117 = .ok (.aload_n 0, 1) := by decide +kernel
theorem dX5_fill_118 : decode cX5_fill 118 = .ok (.aload_n 0, 1) := by decide +kernel
theorem dX5_fill_119 : decode cX5_fill 119 = .ok (.getfield 54, 3) := by decide +kernel
theorem dX5_fill_122 : decode cX5_fill 122 = .ok (.iload_n 1, 1) := by decide +kernel
theorem dX5_fill_123 : decode cX5_fill 123 = .ok (.caload, 1) := by decide +kernel
theorem dX5_fill_124 : decode cX5_fill 124 = .ok (.iload 5, 2) := by decide +kernel
theorem dX5_fill_126 : decode cX5_fill 126 = .ok (.iload 4, 2) := by decide +kernel
theorem dX5_fill_128 : decode cX5_fill 128 = .ok (.invokevirtual 125, 3) := by decide +kernel
theorem dX5_fill_131 : decode cX5_fill 131 = .ok (.ifCond .eq 8, 3) := by decide +kernel
theorem dX5_fill_134 : decode cX5_fill 134 = .ok (.iload 5, 2) := by decide +kernel
theorem dX5_fill_136 : decode cX5_fill 136 = .ok (.goto 5, 3) := by decide +kernel
theorem dX5_fill_139 : decode cX5_fill 139 = .ok (.iload 4, 2) := by decide +kernel
theorem dX5_fill_141 : decode cX5_fill 141 = .ok (.istore 4, 2) := by decide +kernel
theorem dX5_fill_143 : decode cX5_fill 143 = .ok (.iinc 5 1, 3) := by decide +kernel
theorem dX5_fill_146 : decode cX5_fill 146 = .ok (.goto (-66), 3) := by decide +kernel
theorem dX5_fill_149 : decode cX5_fill 149 = .ok (.iload_n 2, 1) := by decide +kernel
theorem dX5_fill_150 : decode cX5_fill 150 = .ok (.iconst 1, 1) := by decide +kernel
theorem dX5_fill_151 : decode cX5_fill 151 = .ok (.iload 4, 2) := by decide +kernel
theorem dX5_fill_153 : decode cX5_fill 153 = .ok (.ishl, 1) := by decide +kernel
theorem dX5_fill_154 : decode cX5_fill 154 = .ok (.iconst (-1), 1) := by decide +kernel
theorem dX5_fill_155 : decode cX5_fill 155 = .ok (.ixor, 1) := by decide +kernel
theorem dX5_fill_156 : decode cX5_fill 156 = .ok (.iand, 1) := by decide +kernel
theorem dX5_fill_157 : decode cX5_fill 157 = .ok (.istore_n 2, 1) := by decide +kernel
theorem dX5_fill_158 : decode cX5_fill 158 = .ok (.aload_n 0, 1) := by decide +kernel
theorem dX5_fill_159 : decode cX5_fill 159 = .ok (.getfield 57, 3) := by decide +kernel
theorem dX5_fill_162 : decode cX5_fill 162 = .ok (.iload_n 1, 1) := by decide +kernel
theorem dX5_fill_163 : decode cX5_fill 163 = .ok (.iaload, 1) := by decide +kernel
theorem dX5_fill_164 : decode cX5_fill 164 = .ok (.ifCond .eq 21, 3) := by decide +kernel
theorem dX5_fill_167 : decode cX5_fill 167 = .ok (.iload_n 3, 1) := by decide +kernel
theorem dX5_fill_168 : decode cX5_fill 168 = .ok (.aload_n 0, 1) := by decide +kernel
theorem dX5_fill_169 : decode cX5_fill 169 = .ok (.getfield 7, 3) := by decide +kernel
theorem dX5_fill_172 : decode cX5_fill 172 = .ok (.iload 4, 2) := by decide +kernel
theorem dX5_fill_174 : decode cX5_fill 174 = .ok (.iaload, 1) := by decide +kernel
theorem dX5_fill_175 : decode cX5_fill 175 = .ok (.iadd, 1) := by decide +kernel
theorem dX5_fill_176 : decode cX5_fill 176 = .ok (.aload_n 0, 1) := by decide +kernel
theorem dX5_fill_177 : decode cX5_fill 177 = .ok (.getfield 57, 3) := by decide +kernel
theorem dX5_fill_180 : decode cX5_fill 180 = .ok (.iload_n 1, 1) := by decide +kernel
theorem dX5_fill_181 : decode cX5_fill 181 = .ok (.iaload, 1) := by decide +kernel
theorem dX5_fill_182 : decode cX5_fill 182 = .ok (.if_icmp .gt 54, 3) := by decide +kernel
theorem dX5_fill_185 : decode cX5_fill 185 = .ok (.iload_n 3, 1) := by decide +kernel
theorem dX5_fill_186 : decode cX5_fill 186 = .ok (.aload_n 0, 1) := by decide +kernel
theorem dX5_fill_187 : decode cX5_fill 187 = .ok (.getfield 7, 3) := by decide +kernel
theorem dX5_fill_190 : decode cX5_fill 190 = .ok (.iload 4, 2) := by decide +kernel
theorem dX5_fill_192 : decode cX5_fill 192 = .ok (.iaload, 1) := by decide +kernel
theorem dX5_fill_193 : decode cX5_fill 193 = .ok (.iadd, 1) := by decide +kernel
theorem dX5_fill_194 : decode cX5_fill 194 = .ok (.istore_n 3, 1) := by decide +kernel
theorem dX5_fill_195 : decode cX5_fill 195 = .ok (.aload_n 0, 1) := by decide +kernel
theorem dX5_fill_196 : decode cX5_fill 196 = .ok (.getfield 60, 3) := by decide +kernel
theorem dX5_fill_199 : decode cX5_fill 199 = .ok (.iload_n 1, 1) := by decide +kernel
theorem dX5_fill_200 : decode cX5_fill 200 = .ok (.dup2, 1) := by decide +kernel
theorem dX5_fill_201 : decode cX5_fill 201 = .ok (.iaload, 1) := by decide +kernel
theorem dX5_fill_202 : decode cX5_fill 202 = .ok (.iconst 1, 1) := by decide +kernel
theorem dX5_fill_203 : decode cX5_fill 203 = .ok (.iload 4, 2) := by decide +kernel
theorem dX5_fill_205 : decode cX5_fill 205 = .ok (.ishl, 1) := by decide +kernel
theorem dX5_fill_206 : decode cX5_fill 206 = .ok (.ior, 1) := by decide +kernel
theorem dX5_fill_207 : decode cX5_fill 207 = .ok (.iastore, 1) := by decide +kernel
theorem dX5_fill_208 : decode cX5_fill 208 = .ok (.aload_n 0, 1) := by decide +kernel
theorem dX5_fill_209 : decode cX5_fill 209 = .ok (.getfield 66, 3) := by decide +kernel
theorem dX5_fill_212 : decode cX5_fill 212 = .ok (.bipush 24, 2) := by decide +kernel
theorem dX5_fill_214 : decode cX5_fill 214 = .ok (.iload_n 1, 1) := by decide +kernel
theorem dX5_fill_215 : decode cX5_fill 215 = .ok (.imul, 1) := by decide +kernel
theorem dX5_fill_216 : decode cX5_fill 216 = .ok (.aload_n 0, 1) := by decide +kernel
theorem dX5_fill_217 : decode cX5_fill 217 = .ok (.getfield 69, 3) := by decide +kernel
theorem dX5_fill_220 : decode cX5_fill 220 = .ok (.iload_n 1, 1) := by decide +kernel
theorem dX5_fill_221 : decode cX5_fill 221 = .ok (.iaload, 1) := by decide +kernel
theorem dX5_fill_222 : decode cX5_fill 222 = .ok (.iadd, 1) := by decide +kernel
theorem dX5_fill_223 : decode cX5_fill 223 = .ok (.iload 4, 2) := by decide +kernel
theorem dX5_fill_225 : decode cX5_fill 225 = .ok (.iastore, 1) := by decide +kernel
theorem dX5_fill_226 : decode cX5_fill 226 = .ok (.aload_n 0, 1) := by decide +kernel
theorem dX5_fill_227 : decode cX5_fill 227 = .ok (.getfield 69, 3) := by decide +kernel
theorem dX5_fill_230 : decode cX5_fill 230 = .ok (.iload_n 1, 1) := by decide +kernel
theorem dX5_fill_231 : decode cX5_fill 231 = .ok (.dup2, 1) := by decide +kernel
theorem dX5_fill_232 : decode cX5_fill 232 = .ok (.iaload, 1) := by decide +kernel
theorem dX5_fill_233 : decode cX5_fill 233 = .ok (.iconst 1, 1) := by decide +kernel
theorem dX5_fill_234 : decode cX5_fill 234 = .ok (.iadd, 1) := by decide +kernel
theorem dX5_fill_235 : decode cX5_fill 235 = .ok (.iastore, 1) := by decide +kernel
theorem dX5_fill_236 : decode cX5_fill 236 = .ok (.goto (-166), 3) := by decide +kernel
theorem dX5_fill_239 : decode cX5_fill 239 = .ok (.return_, 1) := by decide +kernel
theorem dX5_fillAll_0 : decode cX5_fillAll 0 = .ok (.iconst 0, 1) := by decide +kernel
theorem dX5_fillAll_1 : decode cX5_fillAll 1 = .ok (.istore_n 1, 1) := by decide +kernel
theorem dX5_fillAll_2 : decode cX5_fillAll 2 = .ok (.iload_n 1, 1) := by decide +kernel
theorem dX5_fillAll_3 : decode cX5_fillAll 3 = .ok (.aload_n 0, 1) := by decide +kernel
theorem dX5_fillAll_4 : decode cX5_fillAll 4 = .ok (.getfield 108, 3) := by decide +kernel
theorem dX5_fillAll_7 : decode cX5_fillAll 7 = .ok (.if_icmp .ge 16, 3) := by decide +kernel
theorem dX5_fillAll_10 : decode cX5_fillAll 10 = .ok (.aload_n 0, 1) := by decide +kernel
theorem dX5_fillAll_11 : decode cX5_fillAll 11 = .ok (.getfield 72, 3) := by decide +kernel
theorem dX5_fillAll_14 : decode cX5_fillAll 14 = .ok (.iload_n 1, 1) := by decide +kernel
theorem dX5_fillAll_15 : decode cX5_fillAll 15 = .ok (.iconst 0, 1) := by decide +kernel
theorem dX5_fillAll_16 : decode cX5_fillAll 16 = .ok (.bastore, 1) := by decide +kernel
theorem dX5_fillAll_17 : decode cX5_fillAll 17 = .ok (.iinc 1 1, 3) := by decide +kernel
theorem dX5_fillAll_20 : decode cX5_fillAll 20 = .ok (.goto (-18), 3) := by decide +kernel
theorem dX5_fillAll_23 : decode cX5_fillAll 23 = .ok (.iconst 0, 1) := by decide +kernel
theorem dX5_fillAll_24 : decode cX5_fillAll 24 = .ok (.istore_n 1, 1) := by decide +kernel
theorem dX5_fillAll_25 : decode cX5_fillAll 25 = .ok (.iload_n 1, 1) := by decide +kernel
theorem dX5_fillAll_26 : decode cX5_fillAll 26 = .ok (.aload_n 0, 1) := by decide +kernel
theorem dX5_fillAll_27 : decode cX5_fillAll 27 = .ok (.getfield 108, 3) := by decide +kernel
theorem dX5_fillAll_30 : decode cX5_fillAll 30 = .ok (.if_icmp .ge 14, 3) := by decide +kernel
theorem dX5_fillAll_33 : decode cX5_fillAll 33 = .ok (.aload_n 0, 1) := by decide +kernel
theorem dX5_fillAll_34 : decode cX5_fillAll 34 = .ok (.iload_n 1, 1) := by decide +kernel
theorem dX5_fillAll_35 : decode cX5_fillAll 35 = .ok (.invokevirtual 114, 3) := by decide +kernel
theorem dX5_fillAll_38 : decode cX5_fillAll 38 = .ok (.iinc 1 1, 3) := by decide +kernel
theorem dX5_fillAll_41 : decode cX5_fillAll 41 = .ok (.goto (-16), 3) := by decide +kernel
theorem dX5_fillAll_44 : decode cX5_fillAll 44 = .ok (.return_, 1) := by decide +kernel
theorem dX5_changes_0 : decode cX5_changes 0 = .ok (.iconst 0, 1) := by decide +kernel
theorem dX5_changes_1 : decode cX5_changes 1 = .ok (.istore_n 1, 1) := by decide +kernel
theorem dX5_changes_2 : decode cX5_changes 2 = .ok (.iload_n 1, 1) := by decide +kernel
theorem dX5_changes_3 : decode cX5_changes 3 = .ok (.aload_n 0, 1) := by decide +kernel
theorem dX5_changes_4 : decode cX5_changes 4 = .ok (.getfield 108, 3) := by decide +kernel
theorem dX5_changes_7 : decode cX5_changes 7 = .ok (.if_icmp .ge 21, 3) := by decide +kernel
theorem dX5_changes_10 : decode cX5_changes 10 = .ok (.aload_n 0, 1) := by decide +kernel
theorem dX5_changes_11 : decode cX5_changes 11 = .ok (.getfield 63, 3) := by decide +kernel
theorem dX5_changes_14 : decode cX5_changes 14 = .ok (.iload_n 1, 1) := by decide +kernel
theorem dX5_changes_15 : decode cX5_changes 15 = .ok (.aload_n 0, 1) := by decide +kernel
theorem dX5_changes_16 : decode cX5_changes 16 = .ok (.getfield 60, 3) := by decide +kernel
theorem dX5_changes_19 : decode cX5_changes 19 = .ok (.iload_n 1, 1) := by decide +kernel
theorem dX5_changes_20 : decode cX5_changes 20 = .ok (.iaload, 1) := by decide +kernel
theorem dX5_changes_21 : decode cX5_changes 21 = .ok (.iastore, 1) := by decide +kernel
theorem dX5_changes_22 : decode cX5_changes 22 = .ok (.iinc 1 1, 3) := by decide +kernel
theorem dX5_changes_25 : decode cX5_changes 25 = .ok (.goto (-23), 3) := by decide +kernel
theorem dX5_changes_28 : decode cX5_changes 28 = .ok (.aload_n 0, 1) := by decide +kernel
theorem dX5_changes_29 : decode cX5_changes 29 = .ok (.invokevirtual 129, 3) := by decide +kernel
theorem dX5_changes_32 : decode cX5_changes 32 = .ok (.aload_n 0, 1) := by decide +kernel
theorem dX5_changes_33 : decode cX5_changes 33 = .ok (.iconst 0, 1) := by decide +kernel
theorem dX5_changes_34 : decode cX5_changes 34 = .ok (.putfield 132, 3) := by decide +kernel
theorem dX5_changes_37 : decode cX5_changes 37 = .ok (.iconst 0, 1) := by decide +kernel
theorem dX5_changes_38 : decode cX5_changes 38 = .ok (.istore_n 1, 1) := by decide +kernel
theorem dX5_changes_39 : decode cX5_changes 39 = .ok (.iload_n 1, 1) := by decide +kernel
theorem dX5_changes_40 : decode cX5_changes 40 = .ok (.aload_n 0, 1) := by decide +kernel
theorem dX5_changes_41 : decode cX5_changes 41 = .ok (.getfield 108, 3) := by decide +kernel
theorem dX5_changes_44 : decode cX5_changes 44 = .ok (.if_icmp .ge 38, 3) := by decide +kernel
theorem dX5_changes_47 : decode cX5_changes 47 = .ok (.aload_n 0, 1) := by decide +kernel
theorem dX5_changes_48 : decode cX5_changes 48 = .ok (.dup, 1) := by decide +kernel
theorem dX5_changes_49 : decode cX5_changes 49 = .ok (.getfield 132, 3) := by decide +kernel
theorem dX5_changes_52 : decode cX5_changes 52 = .ok (.aload_n 0, 1) := by decide +kernel
theorem dX5_changes_53 : decode cX5_changes 53 = .ok (.getfield 63, 3) := by decide +kernel
theorem dX5_changes_56 : decode cX5_changes 56 = .ok (.iload_n 1, 1) := by decide +kernel
theorem dX5_changes_57 : decode cX5_changes 57 = .ok (.iaload, 1) := by decide +kernel
theorem dX5_changes_58 : decode cX5_changes 58 = .ok (.aload_n 0, 1) := by decide +kernel
theorem dX5_changes_59 : decode cX5_changes 59 = .ok (.getfield 60, 3) := by decide +kernel
theorem dX5_changes_62 : decode cX5_changes 62 = .ok (.iload_n 1, 1) := by decide +kernel
theorem dX5_changes_63 : decode cX5_changes 63 = .ok (.iaload, 1) := by decide +kernel
theorem dX5_changes_64 : decode cX5_changes 64 = .ok (.if_icmp .ne 7, 3) := by decide +kernel
theorem dX5_changes_67 : decode cX5_changes 67 = .ok (.iconst 0, 1) := by decide +kernel
theorem dX5_changes_68 : decode cX5_changes 68 = .ok (.goto 4, 3) := by decide +kernel
theorem dX5_changes_71 : decode cX5_changes 71 = .ok (.iconst 1, 1) := by decide +kernel
theorem dX5_changes_72 : decode cX5_changes 72 = .ok (.iadd, 1) := by decide +kernel
theorem dX5_changes_73 : decode cX5_changes 73 = .ok (.putfield 132, 3) := by decide +kernel
theorem dX5_changes_76 : decode cX5_changes 76 = .ok (.iinc 1 1, 3) := by decide +kernel
theorem dX5_changes_79 : decode cX5_changes 79 = .ok (.goto (-40), 3) := by decide +kernel
theorem dX5_changes_82 : decode cX5_changes 82 = .ok (.return_, 1) := by decide +kernel
theorem dX5_addTrack_0 : decode cX5_addTrack 0 = .ok (.aload_n 0, 1) := by decide +kernel
theorem dX5_addTrack_1 : decode cX5_addTrack 1 = .ok (.iconst 0, 1) := by decide +kernel
theorem dX5_addTrack_2 : decode cX5_addTrack 2 = .ok (.putfield 91, 3) := by decide +kernel
theorem dX5_addTrack_5 : decode cX5_addTrack 5 = .ok (.aload_n 0, 1) := by decide +kernel
theorem dX5_addTrack_6 : decode cX5_addTrack 6 = .ok (.iload_n 1, 1) := by decide +kernel
theorem dX5_addTrack_7 : decode cX5_addTrack 7 = .ok (.iconst 1, 1) := by decide +kernel
theorem dX5_addTrack_8 : decode cX5_addTrack 8 = .ok (.sipush 999, 3) := by decide +kernel
theorem dX5_addTrack_11 : decode cX5_addTrack 11 = .ok (.invokestatic 98, 3) := by decide +kernel
theorem dX5_addTrack_14 : decode cX5_addTrack 14 = .ok (.ifCond .eq 12, 3) := by decide +kernel
theorem dX5_addTrack_17 : decode cX5_addTrack 17 = .ok (.iload_n 2, 1) := by decide +kernel
theorem dX5_addTrack_18 : decode cX5_addTrack 18 = .ok (.iconst 0, 1) := by decide +kernel
theorem dX5_addTrack_19 : decode cX5_addTrack 19 = .ok (.iconst 5, 1) := by decide +kernel
theorem dX5_addTrack_20 : decode cX5_addTrack 20 = .ok (.invokestatic 98, 3) := by decide +kernel
theorem dX5_addTrack_23 : decode cX5_addTrack 23 = .ok (.ifCond .ne 7, 3) := by decide +kernel
theorem dX5_addTrack_26 : decode cX5_addTrack 26 = .ok (.iconst 1, 1) := by decide +kernel
theorem dX5_addTrack_27 : decode cX5_addTrack 27 = .ok (.goto 4, 3) := by decide +kernel
theorem dX5_addTrack_30 : decode cX5_addTrack 30 = .ok (.iconst 0, 1) := by decide +kernel
theorem dX5_addTrack_31 : decode cX5_addTrack 31 = .ok (.iconst 1, 1) := by decide +kernel
theorem dX5_addTrack_32 : decode cX5_addTrack 32 = .ok (.invokevirtual 135, 3) := by decide +kernel
theorem dX5_addTrack_35 : decode cX5_addTrack 35 = .ok (.ifCond .ne 25, 3) := by decide +kernel
theorem dX5_addTrack_38 : decode cX5_addTrack 38 = .ok (.aload_n 0, 1) := by decide +kernel
theorem dX5_addTrack_39 : decode cX5_addTrack 39 = .ok (.aload_n 0, 1) := by decide +kernel
theorem dX5_addTrack_40 : decode cX5_addTrack 40 = .ok (.getfield 95, 3) := by decide +kernel
theorem dX5_addTrack_43 : decode cX5_addTrack 43 = .ok (.bipush 24, 2) := by decide +kernel
theorem dX5_addTrack_45 : decode cX5_addTrack 45 = .ok (.if_icmp .ne 7, 3) := by decide +kernel
theorem dX5_addTrack_48 : decode cX5_addTrack 48 = .ok (.iconst 1, 1) := by decide +kernel
theorem dX5_addTrack_49 : decode cX5_addTrack 49 = .ok (.goto 4, 3) := by decide +kernel
theorem dX5_addTrack_52 : decode cX5_addTrack 52 = .ok (.iconst 0, 1) := by decide +kernel
theorem dX5_addTrack_53 : decode cX5_addTrack 53 = .ok (.iconst 2, 1) := by decide +kernel
theorem dX5_addTrack_54 : decode cX5_addTrack 54 = .ok (.invokevirtual 135, 3) := by decide +kernel
theorem dX5_addTrack_57 : decode cX5_addTrack 57 = .ok (.ifCond .eq 5, 3) := by decide +kernel
theorem dX5_addTrack_60 : decode cX5_addTrack 60 = .ok (.iconst 0, 1) := by decide +kernel
theorem dX5_addTrack_61 : decode cX5_addTrack 61 = .ok (.ireturn, 1) := by decide +kernel
theorem dX5_addTrack_62 : decode cX5_addTrack 62 = .ok (.aload_n 0, 1) := by decide +kernel
theorem dX5_addTrack_63 : decode cX5_addTrack 63 = .ok (.getfield 7, 3) := by decide +kernel
theorem dX5_addTrack_66 : decode cX5_addTrack 66 = .ok (.aload_n 0, 1) := by decide +kernel
theorem dX5_addTrack_67 : decode cX5_addTrack 67 = .ok (.getfield 95, 3) := by decide +kernel
theorem dX5_addTrack_70 : decode cX5_addTrack 70 = .ok (.iload_n 1, 1) := by decide +kernel
theorem dX5_addTrack_71 : decode cX5_addTrack 71 = .ok (.iastore, 1) := by decide +kernel
theorem dX5_addTrack_72 : decode cX5_addTrack 72 = .ok (.aload_n 0, 1) := by decide +kernel
theorem dX5_addTrack_73 : decode cX5_addTrack 73 = .ok (.getfield 13, 3) := by decide +kernel
theorem dX5_addTrack_76 : decode cX5_addTrack 76 = .ok (.aload_n 0, 1) := by decide +kernel
theorem dX5_addTrack_77 : decode cX5_addTrack 77 = .ok (.getfield 95, 3) := by decide +kernel
theorem dX5_addTrack_80 : decode cX5_addTrack 80 = .ok (.iload_n 2, 1) := by decide +kernel
theorem dX5_addTrack_81 : decode cX5_addTrack 81 = .ok (.iastore, 1) := by decide +kernel
theorem dX5_addTrack_82 : decode cX5_addTrack 82 = .ok (.aload_n 0, 1) := by decide +kernel
theorem dX5_addTrack_83 : decode cX5_addTrack 83 = .ok (.dup, 1) := by decide +kernel
theorem dX5_addTrack_84 : decode cX5_addTrack 84 = .ok (.getfield 95, 3) := by decide +kernel
theorem dX5_addTrack_87 : decode cX5_addTrack 87 = .ok (.iconst 1, 1) := by decide +kernel
theorem dX5_addTrack_88 : decode cX5_addTrack 88 = .ok (.iadd, 1) := by decide +kernel
theorem dX5_addTrack_89 : decode cX5_addTrack 89 = .ok (.putfield 95, 3) := by decide +kernel
theorem dX5_addTrack_92 : decode cX5_addTrack 92 = .ok (.aload_n 0, 1) := by decide +kernel
theorem dX5_addTrack_93 : decode cX5_addTrack 93 = .ok (.invokevirtual 139, 3) := by decide +kernel
theorem dX5_addTrack_96 : decode cX5_addTrack 96 = .ok (.aload_n 0, 1) := by decide +kernel
theorem dX5_addTrack_97 : decode cX5_addTrack 97 = .ok (.getfield 95, 3) := by decide +kernel
theorem dX5_addTrack_100 : decode cX5_addTrack 100 = .ok (.iconst 1, 1) := by decide +kernel
theorem dX5_addTrack_101 : decode cX5_addTrack 101 = .ok (.isub, 1) := by decide +kernel
theorem dX5_addTrack_102 : decode cX5_addTrack 102 = .ok (.ireturn, 1) := by decide +kernel
theorem dX5_present_0 : decode cX5_present 0 = .ok (.iconst 0, 1) := by decide +kernel
theorem dX5_present_1 : decode cX5_present 1 = .ok (.istore_n 1, 1) := by decide +kernel
theorem dX5_present_2 : decode cX5_present 2 = .ok (.iconst 0, 1) := by decide +kernel
theorem dX5_present_3 : decode cX5_present 3 = .ok (.istore_n 2, 1) := by decide +kernel
theorem dX5_present_4 : decode cX5_present 4 = .ok (.iload_n 2, 1) := by decide +kernel
theorem dX5_present_5 : decode cX5_present 5 = .ok (.aload_n 0, 1) := by decide +kernel
theorem dX5_present_6 : decode cX5_present 6 = .ok (.getfield 95, 3) := by decide +kernel
theorem dX5_present_9 : decode cX5_present 9 = .ok (.if_icmp .ge 26, 3) := by decide +kernel
theorem dX5_present_12 : decode cX5_present 12 = .ok (.iload_n 1, 1) := by decide +kernel
theorem dX5_present_13 : decode cX5_present 13 = .ok (.aload_n 0, 1) := by decide +kernel
theorem dX5_present_14 : decode cX5_present 14 = .ok (.getfield 25, 3) := by decide +kernel
theorem dX5_present_17 : decode cX5_present 17 = .ok (.iload_n 2, 1) := by decide +kernel
theorem dX5_present_18 : decode cX5_present 18 = .ok (.baload, 1) := by decide +kernel
theorem dX5_present_19 : decode cX5_present 19 = .ok (.ifCond .eq 7, 3) := by decide +kernel
theorem dX5_present_22 : decode cX5_present 22 = .ok (.iconst 0, 1) := by decide +kernel
theorem dX5_present_23 : decode cX5_present 23 = .ok (.goto 4, 3) := by decide +kernel
theorem dX5_present_26 : decode cX5_present 26 = .ok (.iconst 1, 1) := by decide +kernel
theorem dX5_present_27 : decode cX5_present 27 = .ok (.iadd, 1) := by decide +kernel
theorem dX5_present_28 : decode cX5_present 28 = .ok (.istore_n 1, 1) := by decide +kernel
theorem dX5_present_29 : decode cX5_present 29 = .ok (.iinc 2 1, 3) := by decide +kernel
theorem dX5_present_32 : decode cX5_present 32 = .ok (.goto (-28), 3) := by decide +kernel
theorem dX5_present_35 : decode cX5_present 35 = .ok (.iload_n 1, 1) := by decide +kernel
theorem dX5_present_36 : decode cX5_present 36 = .ok (.ireturn, 1) := by decide +kernel
theorem dX5_removeTrack_0 : decode cX5_removeTrack 0 = .ok (.aload_n 0, 1) := by decide +kernel
theorem dX5_removeTrack_1 : decode cX5_removeTrack 1 = .ok (.iconst 0, 1) := by decide +kernel
theorem dX5_removeTrack_2 : decode cX5_removeTrack 2 = .ok (.putfield 91, 3) := by decide +kernel
theorem dX5_removeTrack_5 : decode cX5_removeTrack 5 = .ok (.aload_n 0, 1) := by decide +kernel
theorem dX5_removeTrack_6 : decode cX5_removeTrack 6 = .ok (.aload_n 0, 1) := by decide +kernel
theorem dX5_removeTrack_7 : decode cX5_removeTrack 7 = .ok (.iload_n 1, 1) := by decide +kernel
theorem dX5_removeTrack_8 : decode cX5_removeTrack 8 = .ok (.invokevirtual 142, 3) := by decide +kernel
theorem dX5_removeTrack_11 : decode cX5_removeTrack 11 = .ok (.iconst 1, 1) := by decide +kernel
theorem dX5_removeTrack_12 : decode cX5_removeTrack 12 = .ok (.invokevirtual 135, 3) := by decide +kernel
theorem dX5_removeTrack_15 : decode cX5_removeTrack 15 = .ok (.ifCond .eq 5, 3) := by decide +kernel
theorem dX5_removeTrack_18 : decode cX5_removeTrack 18 = .ok (.iconst 0, 1) := by decide +kernel
theorem dX5_removeTrack_19 : decode cX5_removeTrack 19 = .ok (.ireturn, 1) := by decide +kernel
theorem dX5_removeTrack_20 : decode cX5_removeTrack 20 = .ok (.aload_n 0, 1) := by decide +kernel
theorem dX5_removeTrack_21 : decode cX5_removeTrack 21 = .ok (.getfield 25, 3) := by decide +kernel
theorem dX5_removeTrack_24 : decode cX5_removeTrack 24 = .ok (.iload_n 1, 1) := by decide +kernel
theorem dX5_removeTrack_25 : decode cX5_removeTrack 25 = .ok (.iconst 1, 1) := by decide +kernel
theorem dX5_removeTrack_26 : decode cX5_removeTrack 26 = .ok (.bastore, 1) := by decide +kernel
theorem dX5_removeTrack_27 : decode cX5_removeTrack 27 = .ok (.aload_n 0, 1) := by decide +kernel
theorem dX5_removeTrack_28 : decode cX5_removeTrack 28 = .ok (.invokevirtual 139, 3) := by decide +kernel
theorem dX5_removeTrack_31 : decode cX5_removeTrack 31 = .ok (.aload_n 0, 1) := by decide +kernel
theorem dX5_removeTrack_32 : decode cX5_removeTrack 32 = .ok (.invokevirtual 146, 3) := by decide +kernel
theorem dX5_removeTrack_35 : decode cX5_removeTrack 35 = .ok (.ireturn, 1) := by decide +kernel
theorem dX5_setRating_0 : decode cX5_setRating 0 = .ok (.aload_n 0, 1) := by decide +kernel
theorem dX5_setRating_1 : decode cX5_setRating 1 = .ok (.iconst 0, 1) := by decide +kernel
theorem dX5_setRating_2 : decode cX5_setRating 2 = .ok (.putfield 91, 3) := by decide +kernel
theorem dX5_setRating_5 : decode cX5_setRating 5 = .ok (.aload_n 0, 1) := by decide +kernel
theorem dX5_setRating_6 : decode cX5_setRating 6 = .ok (.aload_n 0, 1) := by decide +kernel
theorem dX5_setRating_7 : decode cX5_setRating 7 = .ok (.iload_n 1, 1) := by decide +kernel
theorem dX5_setRating_8 : decode cX5_setRating 8 = .ok (.invokevirtual 142, 3) := by decide +kernel
theorem dX5_setRating_11 : decode cX5_setRating 11 = .ok (.iconst 1, 1) := by decide +kernel
theorem dX5_setRating_12 : decode cX5_setRating 12 = .ok (.invokevirtual 135, 3) := by decide +kernel
theorem dX5_setRating_15 : decode cX5_setRating 15 = .ok (.ifCond .ne 25, 3) := by decide +kernel
theorem dX5_setRating_18 : decode cX5_setRating 18 = .ok (.aload_n 0, 1) := by decide +kernel
theorem dX5_setRating_19 : decode cX5_setRating 19 = .ok (.iload_n 2, 1) := by decide +kernel
theorem dX5_setRating_20 : decode cX5_setRating 20 = .ok (.iconst 0, 1) := by decide +kernel
theorem dX5_setRating_21 : decode cX5_setRating 21 = .ok (.iconst 5, 1) := by decide +kernel
theorem dX5_setRating_22 : decode cX5_setRating 22 = .ok (.invokestatic 98, 3) := by decide +kernel
theorem dX5_setRating_25 : decode cX5_setRating 25 = .ok (.ifCond .ne 7, 3) := by decide +kernel
theorem dX5_setRating_28 : decode cX5_setRating 28 = .ok (.iconst 1, 1) := by decide +kernel
theorem dX5_setRating_29 : decode cX5_setRating 29 = .ok (.goto 4, 3) := by decide +kernel
theorem dX5_setRating_32 : decode cX5_setRating 32 = .ok (.iconst 0, 1) := by decide +kernel
theorem dX5_setRating_33 : decode cX5_setRating 33 = .ok (.iconst 2, 1) := by decide +kernel
theorem dX5_setRating_34 : decode cX5_setRating 34 = .ok (.invokevirtual 135, 3) := by decide +kernel
theorem dX5_setRating_37 : decode cX5_setRating 37 = .ok (.ifCond .eq 5, 3) := by decide +kernel
theorem dX5_setRating_40 : decode cX5_setRating 40 = .ok (.iconst 0, 1) := by decide +kernel
theorem dX5_setRating_41 : decode cX5_setRating 41 = .ok (.ireturn, 1) := by decide +kernel
theorem dX5_setRating_42 : decode cX5_setRating 42 = .ok (.aload_n 0, 1) := by decide +kernel
theorem dX5_setRating_43 : decode cX5_setRating 43 = .ok (.getfield 13, 3) := by decide +kernel
theorem dX5_setRating_46 : decode cX5_setRating 46 = .ok (.iload_n 1, 1) := by decide +kernel
theorem dX5_setRating_47 : decode cX5_setRating 47 = .ok (.iaload, 1) := by decide +kernel
theorem dX5_setRating_48 : decode cX5_setRating 48 = .ok (.istore_n 3, 1) := by decide +kernel
theorem dX5_setRating_49 : decode cX5_setRating 49 = .ok (.aload_n 0, 1) := by decide +kernel
theorem dX5_setRating_50 : decode cX5_setRating 50 = .ok (.getfield 13, 3) := by decide +kernel
theorem dX5_setRating_53 : decode cX5_setRating 53 = .ok (.iload_n 1, 1) := by decide +kernel
theorem dX5_setRating_54 : decode cX5_setRating 54 = .ok (.iload_n 2, 1) := by decide +kernel
theorem dX5_setRating_55 : decode cX5_setRating 55 = .ok (.iastore, 1) := by decide +kernel
theorem dX5_setRating_56 : decode cX5_setRating 56 = .ok (.aload_n 0, 1) := by decide +kernel
theorem dX5_setRating_57 : decode cX5_setRating 57 = .ok (.invokevirtual 139, 3) := by decide +kernel
theorem dX5_setRating_60 : decode cX5_setRating 60 = .ok (.iload_n 3, 1) := by decide +kernel
theorem dX5_setRating_61 : decode cX5_setRating 61 = .ok (.ireturn, 1) := by decide +kernel
theorem dX5_play_0 : decode cX5_play 0 = .ok (.aload_n 0, 1) := by decide +kernel
theorem dX5_play_1 : decode cX5_play 1 = .ok (.iconst 0, 1) := by decide +kernel
theorem dX5_play_2 : decode cX5_play 2 = .ok (.putfield 91, 3) := by decide +kernel
theorem dX5_play_5 : decode cX5_play 5 = .ok (.aload_n 0, 1) := by decide +kernel
theorem dX5_play_6 : decode cX5_play 6 = .ok (.aload_n 0, 1) := by decide +kernel
theorem dX5_play_7 : decode cX5_play 7 = .ok (.iload_n 1, 1) := by decide +kernel
theorem dX5_play_8 : decode cX5_play 8 = .ok (.invokevirtual 142, 3) := by decide +kernel
theorem dX5_play_11 : decode cX5_play 11 = .ok (.iconst 1, 1) := by decide +kernel
theorem dX5_play_12 : decode cX5_play 12 = .ok (.invokevirtual 135, 3) := by decide +kernel
theorem dX5_play_15 : decode cX5_play 15 = .ok (.ifCond .ne 28, 3) := by decide +kernel
theorem dX5_play_18 : decode cX5_play 18 = .ok (.aload_n 0, 1) := by decide +kernel
theorem dX5_play_19 : decode cX5_play 19 = .ok (.aload_n 0, 1) := by decide +kernel
theorem dX5_play_20 : decode cX5_play 20 = .ok (.getfield 16, 3) := by decide +kernel
theorem dX5_play_23 : decode cX5_play 23 = .ok (.iload_n 1, 1) := by decide +kernel
theorem dX5_play_24 : decode cX5_play 24 = .ok (.iaload, 1) := by decide +kernel
theorem dX5_play_25 : decode cX5_play 25 = .ok (.sipush 999, 3) := by decide +kernel
theorem dX5_play_28 : decode cX5_play 28 = .ok (.if_icmp .ne 7, 3) := by decide +kernel
theorem dX5_play_31 : decode cX5_play 31 = .ok (.iconst 1, 1) := by decide +kernel
theorem dX5_play_32 : decode cX5_play 32 = .ok (.goto 4, 3) := by decide +kernel
theorem dX5_play_35 : decode cX5_play 35 = .ok (.iconst 0, 1) := by decide +kernel
theorem dX5_play_36 : decode cX5_play 36 = .ok (.iconst 2, 1) := by decide +kernel
theorem dX5_play_37 : decode cX5_play 37 = .ok (.invokevirtual 135, 3) := by decide +kernel
theorem dX5_play_40 : decode cX5_play 40 = .ok (.ifCond .eq 5, 3) := by decide +kernel
theorem dX5_play_43 : decode cX5_play 43 = .ok (.iconst 0, 1) := by decide +kernel
theorem dX5_play_44 : decode cX5_play 44 = .ok (.ireturn, 1) := by decide +kernel
theorem dX5_play_45 : decode cX5_play 45 = .ok (.aload_n 0, 1) := by decide +kernel
theorem dX5_play_46 : decode cX5_play 46 = .ok (.getfield 16, 3) := by decide +kernel
theorem dX5_play_49 : decode cX5_play 49 = .ok (.iload_n 1, 1) := by decide +kernel
theorem dX5_play_50 : decode cX5_play 50 = .ok (.dup2, 1) := by decide +kernel
theorem dX5_play_51 : decode cX5_play 51 = .ok (.iaload, 1) := by decide +kernel
theorem dX5_play_52 : decode cX5_play 52 = .ok (.iconst 1, 1) := by decide +kernel
theorem dX5_play_53 : decode cX5_play 53 = .ok (.iadd, 1) := by decide +kernel
theorem dX5_play_54 : decode cX5_play 54 = .ok (.iastore, 1) := by decide +kernel
theorem dX5_play_55 : decode cX5_play 55 = .ok (.aload_n 0, 1) := by decide +kernel
theorem dX5_play_56 : decode cX5_play 56 = .ok (.getfield 19, 3) := by decide +kernel
theorem dX5_play_59 : decode cX5_play 59 = .ok (.iload_n 1, 1) := by decide +kernel
theorem dX5_play_60 : decode cX5_play 60 = .ok (.aload_n 0, 1) := by decide +kernel
theorem dX5_play_61 : decode cX5_play 61 = .ok (.getfield 111, 3) := by decide +kernel
theorem dX5_play_64 : decode cX5_play 64 = .ok (.iastore, 1) := by decide +kernel
theorem dX5_play_65 : decode cX5_play 65 = .ok (.aload_n 0, 1) := by decide +kernel
theorem dX5_play_66 : decode cX5_play 66 = .ok (.invokevirtual 139, 3) := by decide +kernel
theorem dX5_play_69 : decode cX5_play 69 = .ok (.aload_n 0, 1) := by decide +kernel
theorem dX5_play_70 : decode cX5_play 70 = .ok (.getfield 16, 3) := by decide +kernel
theorem dX5_play_73 : decode cX5_play 73 = .ok (.iload_n 1, 1) := by decide +kernel
theorem dX5_play_74 : decode cX5_play 74 = .ok (.iaload, 1) := by decide +kernel
theorem dX5_play_75 : decode cX5_play 75 = .ok (.ireturn, 1) := by decide +kernel
theorem dX5_pass_0 : decode cX5_pass 0 = .ok (.aload_n 0, 1) := by decide +kernel
theorem dX5_pass_1 : decode cX5_pass 1 = .ok (.iconst 0, 1) := by decide +kernel
theorem dX5_pass_2 : decode cX5_pass 2 = .ok (.putfield 91, 3) := by decide +kernel
theorem dX5_pass_5 : decode cX5_pass 5 = .ok (.aload_n 0, 1) := by decide +kernel
theorem dX5_pass_6 : decode cX5_pass 6 = .ok (.iload_n 1, 1) := by decide +kernel
theorem dX5_pass_7 : decode cX5_pass 7 = .ok (.iconst 1, 1) := by decide +kernel
theorem dX5_pass_8 : decode cX5_pass 8 = .ok (.sipush 365, 3) := by decide +kernel
theorem dX5_pass_11 : decode cX5_pass 11 = .ok (.invokestatic 98, 3) := by decide +kernel
theorem dX5_pass_14 : decode cX5_pass 14 = .ok (.ifCond .ne 7, 3) := by decide +kernel
theorem dX5_pass_17 : decode cX5_pass 17 = .ok (.iconst 1, 1) := by decide +kernel
theorem dX5_pass_18 : decode cX5_pass 18 = .ok (.goto 4, 3) := by decide +kernel
theorem dX5_pass_21 : decode cX5_pass 21 = .ok (.iconst 0, 1) := by decide +kernel
theorem dX5_pass_22 : decode cX5_pass 22 = .ok (.iconst 1, 1) := by decide +kernel
theorem dX5_pass_23 : decode cX5_pass 23 = .ok (.invokevirtual 135, 3) := by decide +kernel
theorem dX5_pass_26 : decode cX5_pass 26 = .ok (.ifCond .ne 28, 3) := by decide +kernel
theorem dX5_pass_29 : decode cX5_pass 29 = .ok (.aload_n 0, 1) := by decide +kernel
theorem dX5_pass_30 : decode cX5_pass 30 = .ok (.aload_n 0, 1) := by decide +kernel
theorem dX5_pass_31 : decode cX5_pass 31 = .ok (.getfield 111, 3) := by decide +kernel
theorem dX5_pass_34 : decode cX5_pass 34 = .ok (.iload_n 1, 1) := by decide +kernel
theorem dX5_pass_35 : decode cX5_pass 35 = .ok (.iadd, 1) := by decide +kernel
theorem dX5_pass_36 : decode cX5_pass 36 = .ok (.sipush 9999, 3) := by decide +kernel
theorem dX5_pass_39 : decode cX5_pass 39 = .ok (.if_icmp .le 7, 3) := by decide +kernel
theorem dX5_pass_42 : decode cX5_pass 42 = .ok (.iconst 1, 1) := by decide +kernel
theorem dX5_pass_43 : decode cX5_pass 43 = .ok (.goto 4, 3) := by decide +kernel
theorem dX5_pass_46 : decode cX5_pass 46 = .ok (.iconst 0, 1) := by decide +kernel
theorem dX5_pass_47 : decode cX5_pass 47 = .ok (.iconst 2, 1) := by decide +kernel
theorem dX5_pass_48 : decode cX5_pass 48 = .ok (.invokevirtual 135, 3) := by decide +kernel
theorem dX5_pass_51 : decode cX5_pass 51 = .ok (.ifCond .eq 5, 3) := by decide +kernel
theorem dX5_pass_54 : decode cX5_pass 54 = .ok (.iconst 0, 1) := by decide +kernel
theorem dX5_pass_55 : decode cX5_pass 55 = .ok (.ireturn, 1) := by decide +kernel
theorem dX5_pass_56 : decode cX5_pass 56 = .ok (.aload_n 0, 1) := by decide +kernel
theorem dX5_pass_57 : decode cX5_pass 57 = .ok (.dup, 1) := by decide +kernel
theorem dX5_pass_58 : decode cX5_pass 58 = .ok (.getfield 111, 3) := by decide +kernel
theorem dX5_pass_61 : decode cX5_pass 61 = .ok (.iload_n 1, 1) := by decide +kernel
theorem dX5_pass_62 : decode cX5_pass 62 = .ok (.iadd, 1) := by decide +kernel
theorem dX5_pass_63 : decode cX5_pass 63 = .ok (.putfield 111, 3) := by decide +kernel
theorem dX5_pass_66 : decode cX5_pass 66 = .ok (.aload_n 0, 1) := by decide +kernel
theorem dX5_pass_67 : decode cX5_pass 67 = .ok (.invokevirtual 139, 3) := by decide +kernel
theorem dX5_pass_70 : decode cX5_pass 70 = .ok (.aload_n 0, 1) := by decide +kernel
theorem dX5_pass_71 : decode cX5_pass 71 = .ok (.getfield 111, 3) := by decide +kernel
theorem dX5_pass_74 : decode cX5_pass 74 = .ok (.ireturn, 1) := by decide +kernel
theorem dX5_addTag_0 : decode cX5_addTag 0 = .ok (.aload_n 0, 1) := by decide +kernel
theorem dX5_addTag_1 : decode cX5_addTag 1 = .ok (.iconst 0, 1) := by decide +kernel
theorem dX5_addTag_2 : decode cX5_addTag 2 = .ok (.putfield 91, 3) := by decide +kernel
theorem dX5_addTag_5 : decode cX5_addTag 5 = .ok (.aload_n 0, 1) := by decide +kernel
theorem dX5_addTag_6 : decode cX5_addTag 6 = .ok (.aload_n 0, 1) := by decide +kernel
theorem dX5_addTag_7 : decode cX5_addTag 7 = .ok (.getfield 102, 3) := by decide +kernel
theorem dX5_addTag_10 : decode cX5_addTag 10 = .ok (.bipush 16, 2) := by decide +kernel
theorem dX5_addTag_12 : decode cX5_addTag 12 = .ok (.if_icmp .ne 7, 3) := by decide +kernel
theorem dX5_addTag_15 : decode cX5_addTag 15 = .ok (.iconst 1, 1) := by decide +kernel
theorem dX5_addTag_16 : decode cX5_addTag 16 = .ok (.goto 4, 3) := by decide +kernel
theorem dX5_addTag_19 : decode cX5_addTag 19 = .ok (.iconst 0, 1) := by decide +kernel
theorem dX5_addTag_20 : decode cX5_addTag 20 = .ok (.iconst 1, 1) := by decide +kernel
theorem dX5_addTag_21 : decode cX5_addTag 21 = .ok (.invokevirtual 135, 3) := by decide +kernel
theorem dX5_addTag_24 : decode cX5_addTag 24 = .ok (.ifCond .eq 5, 3) := by decide +kernel
theorem dX5_addTag_27 : decode cX5_addTag 27 = .ok (.iconst 0, 1) := by decide +kernel
theorem dX5_addTag_28 : decode cX5_addTag 28 = .ok (.ireturn, 1) := by decide +kernel
theorem dX5_addTag_29 : decode cX5_addTag 29 = .ok (.aload_n 0, 1) := by decide +kernel
theorem dX5_addTag_30 : decode cX5_addTag 30 = .ok (.dup, 1) := by decide +kernel
theorem dX5_addTag_31 : decode cX5_addTag 31 = .ok (.getfield 102, 3) := by decide +kernel
theorem dX5_addTag_34 : decode cX5_addTag 34 = .ok (.iconst 1, 1) := by decide +kernel
theorem dX5_addTag_35 : decode cX5_addTag 35 = .ok (.iadd, 1) := by decide +kernel
theorem dX5_addTag_36 : decode cX5_addTag 36 = .ok (.putfield 102, 3) := by decide +kernel
theorem dX5_addTag_39 : decode cX5_addTag 39 = .ok (.aload_n 0, 1) := by decide +kernel
theorem dX5_addTag_40 : decode cX5_addTag 40 = .ok (.getfield 102, 3) := by decide +kernel
theorem dX5_addTag_43 : decode cX5_addTag 43 = .ok (.iconst 1, 1) := by decide +kernel
theorem dX5_addTag_44 : decode cX5_addTag 44 = .ok (.isub, 1) := by decide +kernel
theorem dX5_addTag_45 : decode cX5_addTag 45 = .ok (.ireturn, 1) := by decide +kernel
theorem dX5_letter_0 : decode cX5_letter 0 = .ok (.aload_n 0, 1) := by decide +kernel
theorem dX5_letter_1 : decode cX5_letter 1 = .ok (.iconst 0, 1) := by decide +kernel
theorem dX5_letter_2 : decode cX5_letter 2 = .ok (.putfield 91, 3) := by decide +kernel
theorem dX5_letter_5 : decode cX5_letter 5 = .ok (.aload_n 0, 1) := by decide +kernel
theorem dX5_letter_6 : decode cX5_letter 6 = .ok (.aload_n 0, 1) := by decide +kernel
theorem dX5_letter_7 : decode cX5_letter 7 = .ok (.iload_n 1, 1) := by decide +kernel
theorem dX5_letter_8 : decode cX5_letter 8 = .ok (.invokevirtual 150, 3) := by decide +kernel
theorem dX5_letter_11 : decode cX5_letter 11 = .ok (.iconst 1, 1) := by decide +kernel
theorem dX5_letter_12 : decode cX5_letter 12 = .ok (.invokevirtual 135, 3) := by decide +kernel
theorem dX5_letter_15 : decode cX5_letter 15 = .ok (.ifCond .ne 51, 3) := by decide +kernel
theorem dX5_letter_18 : decode cX5_letter 18 = .ok (.aload_n 0, 1) := by decide +kernel
theorem dX5_letter_19 : decode cX5_letter 19 = .ok (.iload_n 2, 1) := by decide +kernel
theorem dX5_letter_20 : decode cX5_letter 20 = .ok (.bipush 97, 2) := by decide +kernel
theorem dX5_letter_22 : decode cX5_letter 22 = .ok (.bipush 122, 2) := by decide +kernel
theorem dX5_letter_24 : decode cX5_letter 24 = .ok (.invokestatic 98, 3) := by decide +kernel
theorem dX5_letter_27 : decode cX5_letter 27 = .ok (.ifCond .ne 7, 3) := by decide +kernel
theorem dX5_letter_30 : decode cX5_letter 30 = .ok (.iconst 1, 1) := by decide +kernel
theorem dX5_letter_31 : decode cX5_letter 31 = .ok (.goto 4, 3) := by decide +kernel
theorem dX5_letter_34 : decode cX5_letter 34 = .ok (.iconst 0, 1) := by decide +kernel
theorem dX5_letter_35 : decode cX5_letter 35 = .ok (.iconst 2, 1) := by decide +kernel
theorem dX5_letter_36 : decode cX5_letter 36 = .ok (.invokevirtual 135, 3) := by decide +kernel
theorem dX5_letter_39 : decode cX5_letter 39 = .ok (.ifCond .ne 27, 3) := by decide +kernel
theorem dX5_letter_42 : decode cX5_letter 42 = .ok (.aload_n 0, 1) := by decide +kernel
theorem dX5_letter_43 : decode cX5_letter 43 = .ok (.aload_n 0, 1) := by decide +kernel
theorem dX5_letter_44 : decode cX5_letter 44 = .ok (.getfield 29, 3) := by decide +kernel
theorem dX5_letter_47 : decode cX5_letter 47 = .ok (.iload_n 1, 1) := by decide +kernel
theorem dX5_letter_48 : decode cX5_letter 48 = .ok (.iaload, 1) := by decide +kernel
theorem dX5_letter_49 : decode cX5_letter 49 = .ok (.bipush 6, 2) := by decide +kernel
theorem dX5_letter_51 : decode cX5_letter 51 = .ok (.if_icmp .ne 7, 3) := by decide +kernel
theorem dX5_letter_54 : decode cX5_letter 54 = .ok (.iconst 1, 1) := by decide +kernel
theorem dX5_letter_55 : decode cX5_letter 55 = .ok (.goto 4, 3) := by decide +kernel
theorem dX5_letter_58 : decode cX5_letter 58 = .ok (.iconst 0, 1) := by decide +kernel
theorem dX5_letter_59 : decode cX5_letter 59 = .ok (.iconst 3, 1) := by decide +kernel
theorem dX5_letter_60 : decode cX5_letter 60 = .ok (.invokevirtual 135, 3) := by decide +kernel
theorem dX5_letter_63 : decode cX5_letter 63 = .ok (.ifCond .eq 5, 3) := by decide +kernel
theorem dX5_letter_66 : decode cX5_letter 66 = .ok (.iconst 0, 1) := by decide +kernel
theorem dX5_letter_67 : decode cX5_letter 67 = .ok (.ireturn, 1) := by decide +kernel
theorem dX5_letter_68 : decode cX5_letter 68 = .ok (.aload_n 0, 1) := by decide +kernel
theorem dX5_letter_69 : decode cX5_letter 69 = .ok (.getfield 32, 3) := by decide +kernel
theorem dX5_letter_72 : decode cX5_letter 72 = .ok (.bipush 6, 2) := by decide +kernel
theorem dX5_letter_74 : decode cX5_letter 74 = .ok (.iload_n 1, 1) := by decide +kernel
theorem dX5_letter_75 : decode cX5_letter 75 = .ok (.imul, 1) := by decide +kernel
theorem dX5_letter_76 : decode cX5_letter 76 = .ok (.aload_n 0, 1) := by decide +kernel
theorem dX5_letter_77 : decode cX5_letter 77 = .ok (.getfield 29, 3) := by decide +kernel
theorem dX5_letter_80 : decode cX5_letter 80 = .ok (.iload_n 1, 1) := by decide +kernel
theorem dX5_letter_81 : decode cX5_letter 81 = .ok (.iaload, 1) := by decide +kernel
theorem dX5_letter_82 : decode cX5_letter 82 = .ok (.iadd, 1) := by decide +kernel
theorem dX5_letter_83 : decode cX5_letter 83 = .ok (.iload_n 2, 1) := by decide +kernel
theorem dX5_letter_84 : decode cX5_letter 84 = .ok (.castore, 1) := by decide +kernel
theorem dX5_letter_85 : decode cX5_letter 85 = .ok (.aload_n 0, 1) := by decide +kernel
theorem dX5_letter_86 : decode cX5_letter 86 = .ok (.getfield 29, 3) := by decide +kernel
theorem dX5_letter_89 : decode cX5_letter 89 = .ok (.iload_n 1, 1) := by decide +kernel
theorem dX5_letter_90 : decode cX5_letter 90 = .ok (.dup2, 1) := by decide +kernel
theorem dX5_letter_91 : decode cX5_letter 91 = .ok (.iaload, 1) := by decide +kernel
theorem dX5_letter_92 : decode cX5_letter 92 = .ok (.iconst 1, 1) := by decide +kernel
theorem dX5_letter_93 : decode cX5_letter 93 = .ok (.iadd, 1) := by decide +kernel
theorem dX5_letter_94 : decode cX5_letter 94 = .ok (.iastore, 1) := by decide +kernel
theorem dX5_letter_95 : decode cX5_letter 95 = .ok (.aload_n 0, 1) := by decide +kernel
theorem dX5_letter_96 : decode cX5_letter 96 = .ok (.getfield 29, 3) := by decide +kernel
theorem dX5_letter_99 : decode cX5_letter 99 = .ok (.iload_n 1, 1) := by decide +kernel
theorem dX5_letter_100 : decode cX5_letter 100 = .ok (.iaload, 1) := by decide +kernel
theorem dX5_letter_101 : decode cX5_letter 101 = .ok (.ireturn, 1) := by decide +kernel
theorem dX5_count_0 : decode cX5_count 0 = .ok (.iconst 0, 1) := by decide +kernel
theorem dX5_count_1 : decode cX5_count 1 = .ok (.istore_n 1, 1) := by decide +kernel
theorem dX5_count_2 : decode cX5_count 2 = .ok (.iconst 0, 1) := by decide +kernel
theorem dX5_count_3 : decode cX5_count 3 = .ok (.istore_n 2, 1) := by decide +kernel
theorem dX5_count_4 : decode cX5_count 4 = .ok (.iload_n 2, 1) := by decide +kernel
theorem dX5_count_5 : decode cX5_count 5 = .ok (.bipush 32, 2) := by decide +kernel
theorem dX5_count_7 : decode cX5_count 7 = .ok (.if_icmp .ge 17, 3) := by decide +kernel
theorem dX5_count_10 : decode cX5_count 10 = .ok (.iload_n 1, 1) := by decide +kernel
theorem dX5_count_11 : decode cX5_count 11 = .ok (.iload_n 0, 1) := by decide +kernel
theorem dX5_count_12 : decode cX5_count 12 = .ok (.iload_n 2, 1) := by decide +kernel
theorem dX5_count_13 : decode cX5_count 13 = .ok (.ishr, 1) := by decide +kernel
theorem dX5_count_14 : decode cX5_count 14 = .ok (.iconst 1, 1) := by decide +kernel
theorem dX5_count_15 : decode cX5_count 15 = .ok (.iand, 1) := by decide +kernel
theorem dX5_count_16 : decode cX5_count 16 = .ok (.iadd, 1) := by decide +kernel
theorem dX5_count_17 : decode cX5_count 17 = .ok (.istore_n 1, 1) := by decide +kernel
theorem dX5_count_18 : decode cX5_count 18 = .ok (.iinc 2 1, 3) := by decide +kernel
theorem dX5_count_21 : decode cX5_count 21 = .ok (.goto (-17), 3) := by decide +kernel
theorem dX5_count_24 : decode cX5_count 24 = .ok (.iload_n 1, 1) := by decide +kernel
theorem dX5_count_25 : decode cX5_count 25 = .ok (.ireturn, 1) := by decide +kernel
theorem dX5_tag_0 : decode cX5_tag 0 = .ok (.aload_n 0, 1) := by decide +kernel
theorem dX5_tag_1 : decode cX5_tag 1 = .ok (.iconst 0, 1) := by decide +kernel
theorem dX5_tag_2 : decode cX5_tag 2 = .ok (.putfield 91, 3) := by decide +kernel
theorem dX5_tag_5 : decode cX5_tag 5 = .ok (.aload_n 0, 1) := by decide +kernel
theorem dX5_tag_6 : decode cX5_tag 6 = .ok (.aload_n 0, 1) := by decide +kernel
theorem dX5_tag_7 : decode cX5_tag 7 = .ok (.iload_n 1, 1) := by decide +kernel
theorem dX5_tag_8 : decode cX5_tag 8 = .ok (.invokevirtual 142, 3) := by decide +kernel
theorem dX5_tag_11 : decode cX5_tag 11 = .ok (.ifCond .ne 11, 3) := by decide +kernel
theorem dX5_tag_14 : decode cX5_tag 14 = .ok (.aload_n 0, 1) := by decide +kernel
theorem dX5_tag_15 : decode cX5_tag 15 = .ok (.iload_n 2, 1) := by decide +kernel
theorem dX5_tag_16 : decode cX5_tag 16 = .ok (.invokevirtual 150, 3) := by decide +kernel
theorem dX5_tag_19 : decode cX5_tag 19 = .ok (.ifCond .eq 7, 3) := by decide +kernel
theorem dX5_tag_22 : decode cX5_tag 22 = .ok (.iconst 1, 1) := by decide +kernel
theorem dX5_tag_23 : decode cX5_tag 23 = .ok (.goto 4, 3) := by decide +kernel
theorem dX5_tag_26 : decode cX5_tag 26 = .ok (.iconst 0, 1) := by decide +kernel
theorem dX5_tag_27 : decode cX5_tag 27 = .ok (.iconst 1, 1) := by decide +kernel
theorem dX5_tag_28 : decode cX5_tag 28 = .ok (.invokevirtual 135, 3) := by decide +kernel
theorem dX5_tag_31 : decode cX5_tag 31 = .ok (.ifCond .ne 30, 3) := by decide +kernel
theorem dX5_tag_34 : decode cX5_tag 34 = .ok (.aload_n 0, 1) := by decide +kernel
theorem dX5_tag_35 : decode cX5_tag 35 = .ok (.aload_n 0, 1) := by decide +kernel
theorem dX5_tag_36 : decode cX5_tag 36 = .ok (.getfield 22, 3) := by decide +kernel
theorem dX5_tag_39 : decode cX5_tag 39 = .ok (.iload_n 1, 1) := by decide +kernel
theorem dX5_tag_40 : decode cX5_tag 40 = .ok (.iaload, 1) := by decide +kernel
theorem dX5_tag_41 : decode cX5_tag 41 = .ok (.iload_n 2, 1) := by decide +kernel
theorem dX5_tag_42 : decode cX5_tag 42 = .ok (.ishr, 1) := by decide +kernel
theorem dX5_tag_43 : decode cX5_tag 43 = .ok (.iconst 1, 1) := by decide +kernel
theorem dX5_tag_44 : decode cX5_tag 44 = .ok (.iand, 1) := by decide +kernel
theorem dX5_tag_45 : decode cX5_tag 45 = .ok (.iconst 1, 1) := by decide +kernel
theorem dX5_tag_46 : decode cX5_tag 46 = .ok (.if_icmp .ne 7, 3) := by decide +kernel
theorem dX5_tag_49 : decode cX5_tag 49 = .ok (.iconst 1, 1) := by decide +kernel
theorem dX5_tag_50 : decode cX5_tag 50 = .ok (.goto 4, 3) := by decide +kernel
theorem dX5_tag_53 : decode cX5_tag 53 = .ok (.iconst 0, 1) := by decide +kernel
theorem dX5_tag_54 : decode cX5_tag 54 = .ok (.iconst 2, 1) := by decide +kernel
theorem dX5_tag_55 : decode cX5_tag 55 = .ok (.invokevirtual 135, 3) := by decide +kernel
theorem dX5_tag_58 : decode cX5_tag 58 = .ok (.ifCond .eq 5, 3) := by decide +kernel
theorem dX5_tag_61 : decode cX5_tag 61 = .ok (.iconst 0, 1) := by decide +kernel
theorem dX5_tag_62 : decode cX5_tag 62 = .ok (.ireturn, 1) := by decide +kernel
theorem dX5_tag_63 : decode cX5_tag 63 = .ok (.aload_n 0, 1) := by decide +kernel
theorem dX5_tag_64 : decode cX5_tag 64 = .ok (.getfield 22, 3) := by decide +kernel
theorem dX5_tag_67 : decode cX5_tag 67 = .ok (.iload_n 1, 1) := by decide +kernel
theorem dX5_tag_68 : decode cX5_tag 68 = .ok (.dup2, 1) := by decide +kernel
theorem dX5_tag_69 : decode cX5_tag 69 = .ok (.iaload, 1) := by decide +kernel
theorem dX5_tag_70 : decode cX5_tag 70 = .ok (.iconst 1, 1) := by decide +kernel
theorem dX5_tag_71 : decode cX5_tag 71 = .ok (.iload_n 2, 1) := by decide +kernel
theorem dX5_tag_72 : decode cX5_tag 72 = .ok (.ishl, 1) := by decide +kernel
theorem dX5_tag_73 : decode cX5_tag 73 = .ok (.ior, 1) := by decide +kernel
theorem dX5_tag_74 : decode cX5_tag 74 = .ok (.iastore, 1) := by decide +kernel
theorem dX5_tag_75 : decode cX5_tag 75 = .ok (.aload_n 0, 1) := by decide +kernel
theorem dX5_tag_76 : decode cX5_tag 76 = .ok (.iconst 0, 1) := by decide +kernel
theorem dX5_tag_77 : decode cX5_tag 77 = .ok (.putfield 153, 3) := by decide +kernel
theorem dX5_tag_80 : decode cX5_tag 80 = .ok (.aload_n 0, 1) := by decide +kernel
theorem dX5_tag_81 : decode cX5_tag 81 = .ok (.invokevirtual 139, 3) := by decide +kernel
theorem dX5_tag_84 : decode cX5_tag 84 = .ok (.aload_n 0, 1) := by decide +kernel
theorem dX5_tag_85 : decode cX5_tag 85 = .ok (.getfield 22, 3) := by decide +kernel
theorem dX5_tag_88 : decode cX5_tag 88 = .ok (.iload_n 1, 1) := by decide +kernel
theorem dX5_tag_89 : decode cX5_tag 89 = .ok (.iaload, 1) := by decide +kernel
theorem dX5_tag_90 : decode cX5_tag 90 = .ok (.invokestatic 156, 3) := by decide +kernel
theorem dX5_tag_93 : decode cX5_tag 93 = .ok (.ireturn, 1) := by decide +kernel
theorem dX5_untag_0 : decode cX5_untag 0 = .ok (.aload_n 0, 1) := by decide +kernel
theorem dX5_untag_1 : decode cX5_untag 1 = .ok (.iconst 0, 1) := by decide +kernel
theorem dX5_untag_2 : decode cX5_untag 2 = .ok (.putfield 91, 3) := by decide +kernel
theorem dX5_untag_5 : decode cX5_untag 5 = .ok (.aload_n 0, 1) := by decide +kernel
theorem dX5_untag_6 : decode cX5_untag 6 = .ok (.aload_n 0, 1) := by decide +kernel
theorem dX5_untag_7 : decode cX5_untag 7 = .ok (.iload_n 1, 1) := by decide +kernel
theorem dX5_untag_8 : decode cX5_untag 8 = .ok (.invokevirtual 142, 3) := by decide +kernel
theorem dX5_untag_11 : decode cX5_untag 11 = .ok (.ifCond .ne 11, 3) := by decide +kernel
theorem dX5_untag_14 : decode cX5_untag 14 = .ok (.aload_n 0, 1) := by decide +kernel
theorem dX5_untag_15 : decode cX5_untag 15 = .ok (.iload_n 2, 1) := by decide +kernel
theorem dX5_untag_16 : decode cX5_untag 16 = .ok (.invokevirtual 150, 3) := by decide +kernel
theorem dX5_untag_19 : decode cX5_untag 19 = .ok (.ifCond .eq 7, 3) := by decide +kernel
theorem dX5_untag_22 : decode cX5_untag 22 = .ok (.iconst 1, 1) := by decide +kernel
theorem dX5_untag_23 : decode cX5_untag 23 = .ok (.goto 4, 3) := by decide +kernel
theorem dX5_untag_26 : decode cX5_untag 26 = .ok (.iconst 0, 1) := by decide +kernel
theorem dX5_untag_27 : decode cX5_untag 27 = .ok (.iconst 1, 1) := by decide +kernel
theorem dX5_untag_28 : decode cX5_untag 28 = .ok (.invokevirtual 135, 3) := by decide +kernel
theorem dX5_untag_31 : decode cX5_untag 31 = .ok (.ifCond .ne 29, 3) := by decide +kernel
theorem dX5_untag_34 : decode cX5_untag 34 = .ok (.aload_n 0, 1) := by decide +kernel
theorem dX5_untag_35 : decode cX5_untag 35 = .ok (.aload_n 0, 1) := by decide +kernel
theorem dX5_untag_36 : decode cX5_untag 36 = .ok (.getfield 22, 3) := by decide +kernel
theorem dX5_untag_39 : decode cX5_untag 39 = .ok (.iload_n 1, 1) := by decide +kernel
theorem dX5_untag_40 : decode cX5_untag 40 = .ok (.iaload, 1) := by decide +kernel
theorem dX5_untag_41 : decode cX5_untag 41 = .ok (.iload_n 2, 1) := by decide +kernel
theorem dX5_untag_42 : decode cX5_untag 42 = .ok (.ishr, 1) := by decide +kernel
theorem dX5_untag_43 : decode cX5_untag 43 = .ok (.iconst 1, 1) := by decide +kernel
theorem dX5_untag_44 : decode cX5_untag 44 = .ok (.iand, 1) := by decide +kernel
theorem dX5_untag_45 : decode cX5_untag 45 = .ok (.ifCond .ne 7, 3) := by decide +kernel
theorem dX5_untag_48 : decode cX5_untag 48 = .ok (.iconst 1, 1) := by decide +kernel
theorem dX5_untag_49 : decode cX5_untag 49 = .ok (.goto 4, 3) := by decide +kernel
theorem dX5_untag_52 : decode cX5_untag 52 = .ok (.iconst 0, 1) := by decide +kernel
theorem dX5_untag_53 : decode cX5_untag 53 = .ok (.iconst 2, 1) := by decide +kernel
theorem dX5_untag_54 : decode cX5_untag 54 = .ok (.invokevirtual 135, 3) := by decide +kernel
theorem dX5_untag_57 : decode cX5_untag 57 = .ok (.ifCond .eq 5, 3) := by decide +kernel
theorem dX5_untag_60 : decode cX5_untag 60 = .ok (.iconst 0, 1) := by decide +kernel
theorem dX5_untag_61 : decode cX5_untag 61 = .ok (.ireturn, 1) := by decide +kernel
theorem dX5_untag_62 : decode cX5_untag 62 = .ok (.aload_n 0, 1) := by decide +kernel
theorem dX5_untag_63 : decode cX5_untag 63 = .ok (.getfield 22, 3) := by decide +kernel
theorem dX5_untag_66 : decode cX5_untag 66 = .ok (.iload_n 1, 1) := by decide +kernel
theorem dX5_untag_67 : decode cX5_untag 67 = .ok (.dup2, 1) := by decide +kernel
theorem dX5_untag_68 : decode cX5_untag 68 = .ok (.iaload, 1) := by decide +kernel
theorem dX5_untag_69 : decode cX5_untag 69 = .ok (.iconst 1, 1) := by decide +kernel
theorem dX5_untag_70 : decode cX5_untag 70 = .ok (.iload_n 2, 1) := by decide +kernel
theorem dX5_untag_71 : decode cX5_untag 71 = .ok (.ishl, 1) := by decide +kernel
theorem dX5_untag_72 : decode cX5_untag 72 = .ok (.iconst (-1), 1) := by decide +kernel
theorem dX5_untag_73 : decode cX5_untag 73 = .ok (.ixor, 1) := by decide +kernel
theorem dX5_untag_74 : decode cX5_untag 74 = .ok (.iand, 1) := by decide +kernel
theorem dX5_untag_75 : decode cX5_untag 75 = .ok (.iastore, 1) := by decide +kernel
theorem dX5_untag_76 : decode cX5_untag 76 = .ok (.aload_n 0, 1) := by decide +kernel
theorem dX5_untag_77 : decode cX5_untag 77 = .ok (.iconst 0, 1) := by decide +kernel
theorem dX5_untag_78 : decode cX5_untag 78 = .ok (.putfield 153, 3) := by decide +kernel
theorem dX5_untag_81 : decode cX5_untag 81 = .ok (.aload_n 0, 1) := by decide +kernel
theorem dX5_untag_82 : decode cX5_untag 82 = .ok (.invokevirtual 139, 3) := by decide +kernel
theorem dX5_untag_85 : decode cX5_untag 85 = .ok (.aload_n 0, 1) := by decide +kernel
theorem dX5_untag_86 : decode cX5_untag 86 = .ok (.getfield 22, 3) := by decide +kernel
theorem dX5_untag_89 : decode cX5_untag 89 = .ok (.iload_n 1, 1) := by decide +kernel
theorem dX5_untag_90 : decode cX5_untag 90 = .ok (.iaload, 1) := by decide +kernel
theorem dX5_untag_91 : decode cX5_untag 91 = .ok (.invokestatic 156, 3) := by decide +kernel
theorem dX5_untag_94 : decode cX5_untag 94 = .ok (.ireturn, 1) := by decide +kernel
theorem dX5_least_0 : decode cX5_least 0 = .ok (.iload_n 0, 1) := by decide +kernel
theorem dX5_least_1 : decode cX5_least 1 = .ok (.iload_n 1, 1) := by decide +kernel
theorem dX5_least_2 : decode cX5_least 2 = .ok (.if_icmp .ge 7, 3) := by decide +kernel
theorem dX5_least_5 : decode cX5_least 5 = .ok (.iload_n 0, 1) := by decide +kernel
theorem dX5_least_6 : decode cX5_least 6 = .ok (.goto 4, 3) := by decide +kernel
theorem dX5_least_9 : decode cX5_least 9 = .ok (.iload_n 1, 1) := by decide +kernel
theorem dX5_least_10 : decode cX5_least 10 = .ok (.ireturn, 1) := by decide +kernel
theorem dX5_distanceOf_0 : decode cX5_distanceOf 0 = .ok (.iconst 0, 1) := by decide +kernel
theorem dX5_distanceOf_1 : decode cX5_distanceOf 1 = .ok (.istore_n 3, 1) := by decide +kernel
theorem dX5_distanceOf_2 : decode cX5_distanceOf 2 = .ok (.iload_n 3, 1) := by decide +kernel
theorem dX5_distanceOf_3 : decode cX5_distanceOf 3 = .ok (.aload_n 0, 1) := by decide +kernel
theorem dX5_distanceOf_4 : decode cX5_distanceOf 4 = .ok (.getfield 29, 3) := by decide +kernel
theorem dX5_distanceOf_7 : decode cX5_distanceOf 7 = .ok (.iload_n 1, 1) := by decide +kernel
theorem dX5_distanceOf_8 : decode cX5_distanceOf 8 = .ok (.iaload, 1) := by decide +kernel
theorem dX5_distanceOf_9 : decode cX5_distanceOf 9 = .ok (.if_icmp .gt 168, 3) := by decide +kernel
theorem dX5_distanceOf_12 : decode cX5_distanceOf 12 = .ok (.iconst 0, 1) := by decide +kernel
theorem dX5_distanceOf_13 : decode cX5_distanceOf 13 = .ok (.istore 4, 2) := by decide +kernel
theorem dX5_distanceOf_15 : decode cX5_distanceOf 15 = .ok (.iload 4, 2) := by decide +kernel
theorem dX5_distanceOf_17 : decode cX5_distanceOf 17 = .ok (.aload_n 0, 1) := by decide +kernel
theorem dX5_distanceOf_18 : decode cX5_distanceOf 18 = .ok (.getfield 29, 3) := by decide +kernel
theorem dX5_distanceOf_21 : decode cX5_distanceOf 21 = .ok (.iload_n 2, 1) := by decide +kernel
theorem dX5_distanceOf_22 : decode cX5_distanceOf 22 = .ok (.iaload, 1) := by decide +kernel
theorem dX5_distanceOf_23 : decode cX5_distanceOf 23 = .ok (.if_icmp .gt 148, 3) := by decide +kernel
theorem dX5_distanceOf_26 : decode cX5_distanceOf 26 = .ok (.iload_n 3, 1) := by decide +kernel
theorem dX5_distanceOf_27 : decode cX5_distanceOf 27 = .ok (.ifCond .ne 8, 3) := by decide +kernel
theorem dX5_distanceOf_30 : decode cX5_distanceOf 30 = .ok (.iload 4, 2) := by decide +kernel
theorem dX5_distanceOf_32 : decode cX5_distanceOf 32 = .ok (.goto 14, 3) := by decide +kernel
theorem dX5_distanceOf_35 : decode cX5_distanceOf 35 = .ok (.iload 4, 2) := by decide +kernel
theorem dX5_distanceOf_37 : decode cX5_distanceOf 37 = .ok (.ifCond .ne 7, 3) := by decide +kernel
theorem dX5_distanceOf_40 : decode cX5_distanceOf 40 = .ok (.iload_n 3, 1) := by decide +kernel
theorem dX5_distanceOf_41 : decode cX5_distanceOf 41 = .ok (.goto 5, 3) := by decide +kernel
theorem dX5_distanceOf_44 : decode cX5_distanceOf 44 = .ok (.bipush 99, 2) := by decide +kernel
theorem dX5_distanceOf_46 : decode cX5_distanceOf 46 = .ok (.istore 5, 2) := by decide +kernel
theorem dX5_distanceOf_48 : decode cX5_distanceOf 48 = .ok (.iload_n 3, 1) := by decide +kernel
theorem dX5_distanceOf_49 : decode cX5_distanceOf 49 = .ok (.ifCond .le 102, 3) := by decide +kernel
theorem dX5_distanceOf_52 : decode cX5_distanceOf 52 = .ok (.iload 4, 2) := by decide +kernel
theorem dX5_distanceOf_54 : decode cX5_distanceOf 54 = .ok (.ifCond .le 97, 3) := by decide +kernel
theorem dX5_distanceOf_57 : decode cX5_distanceOf 57 = .ok (.aload_n 0, 1) := by decide +kernel
theorem dX5_distanceOf_58 : decode cX5_distanceOf 58 = .ok (.getfield 32, 3) := by decide +kernel
theorem dX5_distanceOf_61 : decode cX5_distanceOf 61 = .ok (.bipush 6, 2) := by decide +kernel
theorem dX5_distanceOf_63 : decode cX5_distanceOf 63 = .ok (.iload_n 1, 1) := by decide +kernel
theorem dX5_distanceOf_64 : decode cX5_distanceOf 64 = .ok (.imul, 1) := by decide +kernel
theorem dX5_distanceOf_65 : decode cX5_distanceOf 65 = .ok (.iload_n 3, 1) := by decide +kernel
theorem dX5_distanceOf_66 : decode cX5_distanceOf 66 = .ok (.iadd, 1) := by decide +kernel
theorem dX5_distanceOf_67 : decode cX5_distanceOf 67 = .ok (.iconst 1, 1) := by decide +kernel
theorem dX5_distanceOf_68 : decode cX5_distanceOf 68 = .ok (.isub, 1) := by decide +kernel
theorem dX5_distanceOf_69 : decode cX5_distanceOf 69 = .ok (.caload, 1) := by decide +kernel
theorem dX5_distanceOf_70 : decode cX5_distanceOf 70 = .ok (.aload_n 0, 1) := by decide +kernel
theorem dX5_distanceOf_71 : decode cX5_distanceOf 71 = .ok (.getfield 32, 3) := by decide +kernel
theorem dX5_distanceOf_74 : decode cX5_distanceOf 74 = .ok (.bipush 6, 2) := by decide +kernel
theorem dX5_distanceOf_76 : decode cX5_distanceOf 76 = .ok (.iload_n 2, 1) := by decide +kernel
theorem dX5_distanceOf_77 : decode cX5_distanceOf 77 = .ok (.imul, 1) := by decide +kernel
theorem dX5_distanceOf_78 : decode cX5_distanceOf 78 = .ok (.iload 4, 2) := by decide +kernel
theorem dX5_distanceOf_80 : decode cX5_distanceOf 80 = .ok (.iadd, 1) := by decide +kernel
theorem dX5_distanceOf_81 : decode cX5_distanceOf 81 = .ok (.iconst 1, 1) := by decide +kernel
theorem dX5_distanceOf_82 : decode cX5_distanceOf 82 = .ok (.isub, 1) := by decide +kernel
theorem dX5_distanceOf_83 : decode cX5_distanceOf 83 = .ok (.caload, 1) := by decide +kernel
theorem dX5_distanceOf_84 : decode cX5_distanceOf 84 = .ok (.if_icmp .ne 7, 3) := by decide +kernel
theorem dX5_distanceOf_87 : decode cX5_distanceOf 87 = .ok (.iconst 0, 1) := by decide +kernel
theorem dX5_distanceOf_88 : decode cX5_distanceOf 88 = .ok (.goto 4, 3) := by decide +kernel
theorem dX5_distanceOf_91 : decode cX5_distanceOf 91 = .ok (.iconst 1, 1) := by decide +kernel
theorem dX5_distanceOf_92 : decode cX5_distanceOf 92 = .ok (.istore 6, 2) := by decide +kernel
theorem dX5_distanceOf_94 : decode cX5_distanceOf 94 = .ok (.aload_n 0, 1) := by decide +kernel
theorem dX5_distanceOf_95 : decode cX5_distanceOf 95 = .ok (.getfield 88, 3) := by decide +kernel
theorem dX5_distanceOf_98 : decode cX5_distanceOf 98 = .ok (.bipush 7, 2) := by decide +kernel
theorem dX5_distanceOf_100 : decode cX5_distanceOf 100 = .ok (.iload_n 3, 1) := by decide +kernel
theorem dX5_distanceOf_101 : decode cX5_distanceOf 101 = .ok (.iconst 1, 1) := by decide +kernel
theorem dX5_distanceOf_102 : decode cX5_distanceOf 102 = .ok (.isub, 1) := by decide +kernel
theorem dX5_distanceOf_103 : decode cX5_distanceOf 103 = .ok (.imul, 1) := by decide +kernel
theorem dX5_distanceOf_104 : decode cX5_distanceOf 104 = .ok (.iload 4, 2) := by decide +kernel
theorem dX5_distanceOf_106 : decode cX5_distanceOf 106 = .ok (.iadd, 1) := by decide +kernel
theorem dX5_distanceOf_107 : decode cX5_distanceOf 107 = .ok (.iaload, 1) := by decide +kernel
theorem dX5_distanceOf_108 : decode cX5_distanceOf 108 = .ok (.aload_n 0, 1) := by decide +kernel
theorem dX5_distanceOf_109 : decode cX5_distanceOf 109 = .ok (.getfield 88, 3) := by decide +kernel
theorem dX5_distanceOf_112 : decode cX5_distanceOf 112 = .ok (.bipush 7, 2) := by decide +kernel
theorem dX5_distanceOf_114 : decode cX5_distanceOf 114 = .ok (.iload_n 3, 1) := by decide +kernel
theorem dX5_distanceOf_115 : decode cX5_distanceOf 115 = .ok (.imul, 1) := by decide +kernel
theorem dX5_distanceOf_116 : decode cX5_distanceOf 116 = .ok (.iload 4, 2) := by decide +kernel
theorem dX5_distanceOf_118 : decode cX5_distanceOf 118 = .ok (.iadd, 1) := by decide +kernel
theorem dX5_distanceOf_119 : decode cX5_distanceOf 119 = .ok (.iconst 1, 1) := by decide +kernel
theorem dX5_distanceOf_120 : decode cX5_distanceOf 120 = .ok (.isub, 1) := by decide +kernel
theorem dX5_distanceOf_121 : decode cX5_distanceOf 121 = .ok (.iaload, 1) := by decide +kernel
theorem dX5_distanceOf_122 : decode cX5_distanceOf 122 = .ok (.invokestatic 160, 3) := by decide +kernel
theorem dX5_distanceOf_125 : decode cX5_distanceOf 125 = .ok (.iconst 1, 1) := by decide +kernel
theorem dX5_distanceOf_126 : decode cX5_distanceOf 126 = .ok (.iadd, 1) := by decide +kernel
theorem dX5_distanceOf_127 : decode cX5_distanceOf 127 = .ok (.aload_n 0, 1) := by decide +kernel
theorem dX5_distanceOf_128 : decode cX5_distanceOf 128 = .ok (.getfield 88, 3) := by decide +kernel
theorem dX5_distanceOf_131 : decode cX5_distanceOf 131 = .ok (.bipush 7, 2) := by decide +kernel
theorem dX5_distanceOf_133 : decode cX5_distanceOf 133 = .ok (.iload_n 3, 1) := by decide +kernel
theorem dX5_distanceOf_134 : decode cX5_distanceOf 134 = .ok (.iconst 1, 1) := by decide +kernel
theorem dX5_distanceOf_135 : decode cX5_distanceOf 135 = .ok (.isub, 1) := by decide +kernel
theorem dX5_distanceOf_136 : decode cX5_distanceOf 136 = .ok (.imul, 1) := by decide +kernel
theorem dX5_distanceOf_137 : decode cX5_distanceOf 137 = .ok (.iload 4, 2) := by decide +kernel
theorem dX5_distanceOf_139 : decode cX5_distanceOf 139 = .ok (.iadd, 1) := by decide +kernel
theorem dX5_distanceOf_140 : decode cX5_distanceOf 140 = .ok (.iconst 1, 1) := by decide +kernel
theorem dX5_distanceOf_141 : decode cX5_distanceOf 141 = .ok (.isub, 1) := by decide +kernel
theorem dX5_distanceOf_142 : decode cX5_distanceOf 142 = .ok (.iaload, 1) := by decide +kernel
theorem dX5_distanceOf_143 : decode cX5_distanceOf 143 = .ok (.iload 6, 2) := by decide +kernel
theorem dX5_distanceOf_145 : decode cX5_distanceOf 145 = .ok (.iadd, 1) := by decide +kernel
theorem dX5_distanceOf_146 : decode cX5_distanceOf 146 = .ok (.invokestatic 160, 3) := by decide +kernel
theorem dX5_distanceOf_149 : decode cX5_distanceOf 149 = .ok (.istore 5, 2) := by decide +kernel
theorem dX5_distanceOf_151 : decode cX5_distanceOf 151 = .ok (.aload_n 0, 1) := by decide +kernel
theorem dX5_distanceOf_152 : decode cX5_distanceOf 152 = .ok (.getfield 88, 3) := by decide +kernel
theorem dX5_distanceOf_155 : decode cX5_distanceOf 155 = .ok (.bipush 7, 2) := by decide +kernel
theorem dX5_distanceOf_157 : decode cX5_distanceOf 157 = .ok (.iload_n 3, 1) := by decide +kernel
theorem dX5_distanceOf_158 : decode cX5_distanceOf 158 = .ok (.imul, 1) := by decide +kernel
theorem dX5_distanceOf_159 : decode cX5_distanceOf 159 = .ok (.iload 4, 2) := by decide +kernel
theorem dX5_distanceOf_161 : decode cX5_distanceOf 161 = .ok (.iadd, 1) := by decide +kernel
theorem dX5_distanceOf_162 : decode cX5_distanceOf 162 = .ok (.iload 5, 2) := by decide +kernel
theorem dX5_distanceOf_164 : decode cX5_distanceOf 164 = .ok (.iastore, 1) := by decide +kernel
theorem dX5_distanceOf_165 : decode cX5_distanceOf 165 = .ok (.iinc 4 1, 3) := by decide +kernel
theorem dX5_distanceOf_168 : decode cX5_distanceOf 168 = .ok (.goto (-153), 3) := by decide +kernel
theorem dX5_distanceOf_171 : decode cX5_distanceOf 171 = .ok (.iinc 3 1, 3) := by decide +kernel
theorem dX5_distanceOf_174 : decode cX5_distanceOf 174 = .ok (.goto (-172), 3) := by decide +kernel
theorem dX5_distanceOf_177 : decode cX5_distanceOf 177 = .ok (.aload_n 0, 1) := by decide +kernel
theorem dX5_distanceOf_178 : decode cX5_distanceOf 178 = .ok (.getfield 88, 3) := by decide +kernel
theorem dX5_distanceOf_181 : decode cX5_distanceOf 181 = .ok (.bipush 7, 2) := by decide +kernel
theorem dX5_distanceOf_183 : decode cX5_distanceOf 183 = .ok (.aload_n 0, 1) := by decide +kernel
theorem dX5_distanceOf_184 : decode cX5_distanceOf 184 = .ok (.getfield 29, 3) := by decide +kernel
theorem dX5_distanceOf_187 : decode cX5_distanceOf 187 = .ok (.iload_n 1, 1) := by decide +kernel
theorem dX5_distanceOf_188 : decode cX5_distanceOf 188 = .ok (.iaload, 1) := by decide +kernel
theorem dX5_distanceOf_189 : decode cX5_distanceOf 189 = .ok (.imul, 1) := by decide +kernel
theorem dX5_distanceOf_190 : decode cX5_distanceOf 190 = .ok (.aload_n 0, 1) := by decide +kernel
theorem dX5_distanceOf_191 : decode cX5_distanceOf 191 = .ok (.getfield 29, 3) := by decide +kernel
theorem dX5_distanceOf_194 : decode cX5_distanceOf 194 = .ok (.iload_n 2, 1) := by decide +kernel
theorem dX5_distanceOf_195 : decode cX5_distanceOf 195 = .ok (.iaload, 1) := by decide +kernel
theorem dX5_distanceOf_196 : decode cX5_distanceOf 196 = .ok (.iadd, 1) := by decide +kernel
theorem dX5_distanceOf_197 : decode cX5_distanceOf 197 = .ok (.iaload, 1) := by decide +kernel
theorem dX5_distanceOf_198 : decode cX5_distanceOf 198 = .ok (.ireturn, 1) := by decide +kernel
theorem dX5_tidy_0 : decode cX5_tidy 0 = .ok (.aload_n 0, 1) := by decide +kernel
theorem dX5_tidy_1 : decode cX5_tidy 1 = .ok (.iconst 0, 1) := by decide +kernel
theorem dX5_tidy_2 : decode cX5_tidy 2 = .ok (.putfield 91, 3) := by decide +kernel
theorem dX5_tidy_5 : decode cX5_tidy 5 = .ok (.aload_n 0, 1) := by decide +kernel
theorem dX5_tidy_6 : decode cX5_tidy 6 = .ok (.aload_n 0, 1) := by decide +kernel
theorem dX5_tidy_7 : decode cX5_tidy 7 = .ok (.iload_n 1, 1) := by decide +kernel
theorem dX5_tidy_8 : decode cX5_tidy 8 = .ok (.invokevirtual 150, 3) := by decide +kernel
theorem dX5_tidy_11 : decode cX5_tidy 11 = .ok (.ifCond .ne 11, 3) := by decide +kernel
theorem dX5_tidy_14 : decode cX5_tidy 14 = .ok (.aload_n 0, 1) := by decide +kernel
theorem dX5_tidy_15 : decode cX5_tidy 15 = .ok (.iload_n 2, 1) := by decide +kernel
theorem dX5_tidy_16 : decode cX5_tidy 16 = .ok (.invokevirtual 150, 3) := by decide +kernel
theorem dX5_tidy_19 : decode cX5_tidy 19 = .ok (.ifCond .eq 7, 3) := by decide +kernel
theorem dX5_tidy_22 : decode cX5_tidy 22 = .ok (.iconst 1, 1) := by decide +kernel
theorem dX5_tidy_23 : decode cX5_tidy 23 = .ok (.goto 4, 3) := by decide +kernel
theorem dX5_tidy_26 : decode cX5_tidy 26 = .ok (.iconst 0, 1) := by decide +kernel
theorem dX5_tidy_27 : decode cX5_tidy 27 = .ok (.iconst 1, 1) := by decide +kernel
theorem dX5_tidy_28 : decode cX5_tidy 28 = .ok (.invokevirtual 135, 3) := by decide +kernel
theorem dX5_tidy_31 : decode cX5_tidy 31 = .ok (.ifCond .ne 44, 3) := by decide +kernel
theorem dX5_tidy_34 : decode cX5_tidy 34 = .ok (.aload_n 0, 1) := by decide +kernel
theorem dX5_tidy_35 : decode cX5_tidy 35 = .ok (.iload_n 1, 1) := by decide +kernel
theorem dX5_tidy_36 : decode cX5_tidy 36 = .ok (.iload_n 2, 1) := by decide +kernel
theorem dX5_tidy_37 : decode cX5_tidy 37 = .ok (.if_icmp .ne 7, 3) := by decide +kernel
theorem dX5_tidy_40 : decode cX5_tidy 40 = .ok (.iconst 1, 1) := by decide +kernel
theorem dX5_tidy_41 : decode cX5_tidy 41 = .ok (.goto 4, 3) := by decide +kernel
theorem dX5_tidy_44 : decode cX5_tidy 44 = .ok (.iconst 0, 1) := by decide +kernel
theorem dX5_tidy_45 : decode cX5_tidy 45 = .ok (.iconst 2, 1) := by decide +kernel
theorem dX5_tidy_46 : decode cX5_tidy 46 = .ok (.invokevirtual 135, 3) := by decide +kernel
theorem dX5_tidy_49 : decode cX5_tidy 49 = .ok (.ifCond .ne 26, 3) := by decide +kernel
theorem dX5_tidy_52 : decode cX5_tidy 52 = .ok (.aload_n 0, 1) := by decide +kernel
theorem dX5_tidy_53 : decode cX5_tidy 53 = .ok (.aload_n 0, 1) := by decide +kernel
theorem dX5_tidy_54 : decode cX5_tidy 54 = .ok (.iload_n 1, 1) := by decide +kernel
theorem dX5_tidy_55 : decode cX5_tidy 55 = .ok (.iload_n 2, 1) := by decide +kernel
theorem dX5_tidy_56 : decode cX5_tidy 56 = .ok (.invokevirtual 164, 3) := by decide +kernel
theorem dX5_tidy_59 : decode cX5_tidy 59 = .ok (.iconst 1, 1) := by decide +kernel
theorem dX5_tidy_60 : decode cX5_tidy 60 = .ok (.if_icmp .le 7, 3) := by decide +kernel
theorem dX5_tidy_63 : decode cX5_tidy 63 = .ok (.iconst 1, 1) := by decide +kernel
theorem dX5_tidy_64 : decode cX5_tidy 64 = .ok (.goto 4, 3) := by decide +kernel
theorem dX5_tidy_67 : decode cX5_tidy 67 = .ok (.iconst 0, 1) := by decide +kernel
theorem dX5_tidy_68 : decode cX5_tidy 68 = .ok (.iconst 3, 1) := by decide +kernel
theorem dX5_tidy_69 : decode cX5_tidy 69 = .ok (.invokevirtual 135, 3) := by decide +kernel
theorem dX5_tidy_72 : decode cX5_tidy 72 = .ok (.ifCond .eq 5, 3) := by decide +kernel
theorem dX5_tidy_75 : decode cX5_tidy 75 = .ok (.iconst 0, 1) := by decide +kernel
theorem dX5_tidy_76 : decode cX5_tidy 76 = .ok (.ireturn, 1) := by decide +kernel
theorem dX5_tidy_77 : decode cX5_tidy 77 = .ok (.iconst 0, 1) := by decide +kernel
theorem dX5_tidy_78 : decode cX5_tidy 78 = .ok (.istore_n 3, 1) := by decide +kernel
theorem dX5_tidy_79 : decode cX5_tidy 79 = .ok (.aload_n 0, 1) := by decide +kernel
theorem dX5_tidy_80 : decode cX5_tidy 80 = .ok (.getfield 75, 3) := by decide +kernel
theorem dX5_tidy_83 : decode cX5_tidy 83 = .ok (.aload_n 0, 1) := by decide +kernel
theorem dX5_tidy_84 : decode cX5_tidy 84 = .ok (.getfield 153, 3) := by decide +kernel
theorem dX5_tidy_87 : decode cX5_tidy 87 = .ok (.iload_n 1, 1) := by decide +kernel
theorem dX5_tidy_88 : decode cX5_tidy 88 = .ok (.iastore, 1) := by decide +kernel
theorem dX5_tidy_89 : decode cX5_tidy 89 = .ok (.aload_n 0, 1) := by decide +kernel
theorem dX5_tidy_90 : decode cX5_tidy 90 = .ok (.getfield 78, 3) := by decide +kernel
theorem dX5_tidy_93 : decode cX5_tidy 93 = .ok (.aload_n 0, 1) := by decide +kernel
theorem dX5_tidy_94 : decode cX5_tidy 94 = .ok (.getfield 153, 3) := by decide +kernel
theorem dX5_tidy_97 : decode cX5_tidy 97 = .ok (.iload_n 2, 1) := by decide +kernel
theorem dX5_tidy_98 : decode cX5_tidy 98 = .ok (.iastore, 1) := by decide +kernel
theorem dX5_tidy_99 : decode cX5_tidy 99 = .ok (.aload_n 0, 1) := by decide +kernel
theorem dX5_tidy_100 : decode cX5_tidy 100 = .ok (.getfield 84, 3) := by decide +kernel
theorem dX5_tidy_103 : decode cX5_tidy 103 = .ok (.aload_n 0, 1) := by decide +kernel
theorem dX5_tidy_104 : decode cX5_tidy 104 = .ok (.getfield 153, 3) := by decide +kernel
theorem dX5_tidy_107 : decode cX5_tidy 107 = .ok (.lconst 0, 1) := by decide +kernel
theorem dX5_tidy_108 : decode cX5_tidy 108 = .ok (.lastore, 1) := by decide +kernel
theorem dX5_tidy_109 : decode cX5_tidy 109 = .ok (.iconst 0, 1) := by decide +kernel
theorem dX5_tidy_110 : decode cX5_tidy 110 = .ok (.istore 4, 2) := by decide +kernel
theorem dX5_tidy_112 : decode cX5_tidy 112 = .ok (.iload 4, 2) := by decide +kernel
theorem dX5_tidy_114 : decode cX5_tidy 114 = .ok (.bipush 24, 2) := by decide +kernel
theorem dX5_tidy_116 : decode cX5_tidy 116 = .ok (.if_icmp .ge 88, 3) := by decide +kernel
theorem dX5_tidy_119 : decode cX5_tidy 119 = .ok (.aload_n 0, 1) := by decide +kernel
theorem dX5_tidy_120 : decode cX5_tidy 120 = .ok (.getfield 81, 3) := by decide +kernel
theorem dX5_tidy_123 : decode cX5_tidy 123 = .ok (.bipush 24, 2) := by decide +kernel
theorem dX5_tidy_125 : decode cX5_tidy 125 = .ok (.aload_n 0, 1) := by decide +kernel
theorem dX5_tidy_126 : decode cX5_tidy 126 = .ok (.getfield 153, 3) := by decide +kernel
theorem dX5_tidy_129 : decode cX5_tidy 129 = .ok (.imul, 1) := by decide +kernel
theorem dX5_tidy_130 : decode cX5_tidy 130 = .ok (.iload 4, 2) := by decide +kernel
theorem dX5_tidy_132 : decode cX5_tidy 132 = .ok (.iadd, 1) := by decide +kernel
theorem dX5_tidy_133 : decode cX5_tidy 133 = .ok (.aload_n 0, 1) := by decide +kernel
theorem dX5_tidy_134 : decode cX5_tidy 134 = .ok (.getfield 22, 3) := by decide +kernel
theorem dX5_tidy_137 : decode cX5_tidy 137 = .ok (.iload 4, 2) := by decide +kernel
theorem dX5_tidy_139 : decode cX5_tidy 139 = .ok (.iaload, 1) := by decide +kernel
theorem dX5_tidy_140 : decode cX5_tidy 140 = .ok (.iastore, 1) := by decide +kernel
theorem dX5_tidy_141 : decode cX5_tidy 141 = .ok (.aload_n 0, 1) := by decide +kernel
theorem dX5_tidy_142 : decode cX5_tidy 142 = .ok (.getfield 22, 3) := by decide +kernel
theorem dX5_tidy_145 : decode cX5_tidy 145 = .ok (.iload 4, 2) := by decide +kernel
theorem dX5_tidy_147 : decode cX5_tidy 147 = .ok (.iaload, 1) := by decide +kernel
theorem dX5_tidy_148 : decode cX5_tidy 148 = .ok (.iload_n 2, 1) := by decide +kernel
theorem dX5_tidy_149 : decode cX5_tidy 149 = .ok (.ishr, 1) := by decide +kernel
theorem dX5_tidy_150 : decode cX5_tidy 150 = .ok (.iconst 1, 1) := by decide +kernel
theorem dX5_tidy_151 : decode cX5_tidy 151 = .ok (.iand, 1) := by decide +kernel
theorem dX5_tidy_152 : decode cX5_tidy 152 = .ok (.iconst 1, 1) := by decide +kernel
theorem dX5_tidy_153 : decode cX5_tidy 153 = .ok (.if_icmp .ne 45, 3) := by decide +kernel
theorem dX5_tidy_156 : decode cX5_tidy 156 = .ok (.aload_n 0, 1) := by decide +kernel
theorem dX5_tidy_157 : decode cX5_tidy 157 = .ok (.getfield 22, 3) := by decide +kernel
theorem dX5_tidy_160 : decode cX5_tidy 160 = .ok (.iload 4, 2) := by decide +kernel
theorem dX5_tidy_162 : decode cX5_tidy 162 = .ok (.aload_n 0, 1) := by decide +kernel
theorem dX5_tidy_163 : decode cX5_tidy 163 = .ok (.getfield 22, 3) := by decide +kernel
theorem dX5_tidy_166 : decode cX5_tidy 166 = .ok (.iload 4, 2) := by decide +kernel
theorem dX5_tidy_168 : decode cX5_tidy 168 = .ok (.iaload, 1) := by decide +kernel
theorem dX5_tidy_169 : decode cX5_tidy 169 = .ok (.iconst 1, 1) := by decide +kernel
theorem dX5_tidy_170 : decode cX5_tidy 170 = .ok (.iload_n 2, 1) := by decide +kernel
theorem dX5_tidy_171 : decode cX5_tidy 171 = .ok (.ishl, 1) := by decide +kernel
theorem dX5_tidy_172 : decode cX5_tidy 172 = .ok (.iconst (-1), 1) := by decide +kernel
theorem dX5_tidy_173 : decode cX5_tidy 173 = .ok (.ixor, 1) := by decide +kernel
theorem dX5_tidy_174 : decode cX5_tidy 174 = .ok (.iand, 1) := by decide +kernel
theorem dX5_tidy_175 : decode cX5_tidy 175 = .ok (.iconst 1, 1) := by decide +kernel
theorem dX5_tidy_176 : decode cX5_tidy 176 = .ok (.iload_n 1, 1) := by decide +kernel
theorem dX5_tidy_177 : decode cX5_tidy 177 = .ok (.ishl, 1) := by decide +kernel
theorem dX5_tidy_178 : decode cX5_tidy 178 = .ok (.ior, 1) := by decide +kernel
theorem dX5_tidy_179 : decode cX5_tidy 179 = .ok (.iastore, 1) := by decide +kernel
theorem dX5_tidy_180 : decode cX5_tidy 180 = .ok (.iload_n 3, 1) := by decide +kernel
theorem dX5_tidy_181 : decode cX5_tidy 181 = .ok (.aload_n 0, 1) := by decide +kernel
theorem dX5_tidy_182 : decode cX5_tidy 182 = .ok (.getfield 25, 3) := by decide +kernel
theorem dX5_tidy_185 : decode cX5_tidy 185 = .ok (.iload 4, 2) := by decide +kernel
theorem dX5_tidy_187 : decode cX5_tidy 187 = .ok (.baload, 1) := by decide +kernel
theorem dX5_tidy_188 : decode cX5_tidy 188 = .ok (.ifCond .eq 7, 3) := by decide +kernel
theorem dX5_tidy_191 : decode cX5_tidy 191 = .ok (.iconst 0, 1) := by decide +kernel
theorem dX5_tidy_192 : decode cX5_tidy 192 = .ok (.goto 4, 3) := by decide +kernel
theorem dX5_tidy_195 : decode cX5_tidy 195 = .ok (.iconst 1, 1) := by decide +kernel
theorem dX5_tidy_196 : decode cX5_tidy 196 = .ok (.iadd, 1) := by decide +kernel
theorem dX5_tidy_197 : decode cX5_tidy 197 = .ok (.istore_n 3, 1) := by decide +kernel
theorem dX5_tidy_198 : decode cX5_tidy 198 = .ok (.iinc 4 1, 3) := by decide +kernel
theorem dX5_tidy_201 : decode cX5_tidy 201 = .ok (.goto (-89), 3) := by decide +kernel
theorem dX5_tidy_204 : decode cX5_tidy 204 = .ok (.iconst 0, 1) := by decide +kernel
theorem dX5_tidy_205 : decode cX5_tidy 205 = .ok (.istore 4, 2) := by decide +kernel
theorem dX5_tidy_207 : decode cX5_tidy 207 = .ok (.iload 4, 2) := by decide +kernel
theorem dX5_tidy_209 : decode cX5_tidy 209 = .ok (.aload_n 0, 1) := by decide +kernel
theorem dX5_tidy_210 : decode cX5_tidy 210 = .ok (.getfield 105, 3) := by decide +kernel
theorem dX5_tidy_213 : decode cX5_tidy 213 = .ok (.if_icmp .ge 54, 3) := by decide +kernel
theorem dX5_tidy_216 : decode cX5_tidy 216 = .ok (.aload_n 0, 1) := by decide +kernel
theorem dX5_tidy_217 : decode cX5_tidy 217 = .ok (.getfield 39, 3) := by decide +kernel
theorem dX5_tidy_220 : decode cX5_tidy 220 = .ok (.iload 4, 2) := by decide +kernel
theorem dX5_tidy_222 : decode cX5_tidy 222 = .ok (.iaload, 1) := by decide +kernel
theorem dX5_tidy_223 : decode cX5_tidy 223 = .ok (.ifCond .ne 38, 3) := by decide +kernel
theorem dX5_tidy_226 : decode cX5_tidy 226 = .ok (.aload_n 0, 1) := by decide +kernel
theorem dX5_tidy_227 : decode cX5_tidy 227 = .ok (.getfield 42, 3) := by decide +kernel
theorem dX5_tidy_230 : decode cX5_tidy 230 = .ok (.iload 4, 2) := by decide +kernel
theorem dX5_tidy_232 : decode cX5_tidy 232 = .ok (.iaload, 1) := by decide +kernel
theorem dX5_tidy_233 : decode cX5_tidy 233 = .ok (.iload_n 2, 1) := by decide +kernel
theorem dX5_tidy_234 : decode cX5_tidy 234 = .ok (.if_icmp .ne 27, 3) := by decide +kernel
theorem dX5_tidy_237 : decode cX5_tidy 237 = .ok (.aload_n 0, 1) := by decide +kernel
theorem dX5_tidy_238 : decode cX5_tidy 238 = .ok (.getfield 42, 3) := by decide +kernel
theorem dX5_tidy_241 : decode cX5_tidy 241 = .ok (.iload 4, 2) := by decide +kernel
theorem dX5_tidy_243 : decode cX5_tidy 243 = .ok (.iload_n 1, 1) := by decide +kernel
theorem dX5_tidy_244 : decode cX5_tidy 244 = .ok (.iastore, 1) := by decide +kernel
theorem dX5_tidy_245 : decode cX5_tidy 245 = .ok (.aload_n 0, 1) := by decide +kernel
theorem dX5_tidy_246 : decode cX5_tidy 246 = .ok (.getfield 84, 3) := by decide +kernel
theorem dX5_tidy_249 : decode cX5_tidy 249 = .ok (.aload_n 0, 1) := by decide +kernel
theorem dX5_tidy_250 : decode cX5_tidy 250 = .ok (.getfield 153, 3) := by decide +kernel
theorem dX5_tidy_253 : decode cX5_tidy 253 = .ok (.dup2, 1) := by decide +kernel
theorem dX5_tidy_254 : decode cX5_tidy 254 = .ok (.laload, 1) := by decide +kernel
theorem dX5_tidy_255 : decode cX5_tidy 255 = .ok (.lconst 1, 1) := by decide +kernel
theorem dX5_tidy_256 : decode cX5_tidy 256 = .ok (.iload 4, 2) := by decide +kernel
theorem dX5_tidy_258 : decode cX5_tidy 258 = .ok (.lshl, 1) := by decide +kernel
theorem dX5_tidy_259 : decode cX5_tidy 259 = .ok (.lor, 1) := by decide +kernel
theorem dX5_tidy_260 : decode cX5_tidy 260 = .ok (.lastore, 1) := by decide +kernel
theorem dX5_tidy_261 : decode cX5_tidy 261 = .ok (.iinc 4 1, 3) := by decide +kernel
theorem dX5_tidy_264 : decode cX5_tidy 264 = .ok (.goto (-57), 3) := by decide +kernel
theorem dX5_tidy_267 : decode cX5_tidy 267 = .ok (.aload_n 0, 1) := by decide +kernel
theorem dX5_tidy_268 : decode cX5_tidy 268 = .ok (.getfield 36, 3) := by decide +kernel
theorem dX5_tidy_271 : decode cX5_tidy 271 = .ok (.iload_n 2, 1) := by decide +kernel
theorem dX5_tidy_272 : decode cX5_tidy 272 = .ok (.iconst 1, 1) := by decide +kernel
theorem dX5_tidy_273 : decode cX5_tidy 273 = .ok (.bastore, 1) := by decide +kernel
theorem dX5_tidy_274 : decode cX5_tidy 274 = .ok (.aload_n 0, 1) := by decide +kernel
theorem dX5_tidy_275 : decode cX5_tidy 275 = .ok (.dup, 1) := by decide +kernel
theorem dX5_tidy_276 : decode cX5_tidy 276 = .ok (.getfield 153, 3) := by decide +kernel
theorem dX5_tidy_279 : decode cX5_tidy 279 = .ok (.iconst 1, 1) := by decide +kernel
theorem dX5_tidy_280 : decode cX5_tidy 280 = .ok (.iadd, 1) := by decide +kernel
theorem dX5_tidy_281 : decode cX5_tidy 281 = .ok (.putfield 153, 3) := by decide +kernel
theorem dX5_tidy_284 : decode cX5_tidy 284 = .ok (.aload_n 0, 1) := by decide +kernel
theorem dX5_tidy_285 : decode cX5_tidy 285 = .ok (.invokevirtual 139, 3) := by decide +kernel
theorem dX5_tidy_288 : decode cX5_tidy 288 = .ok (.iload_n 3, 1) := by decide +kernel
theorem dX5_tidy_289 : decode cX5_tidy 289 = .ok (.ireturn, 1) := by decide +kernel
theorem dX5_undoTidy_0 : decode cX5_undoTidy 0 = .ok (.aload_n 0, 1) := by decide +kernel
theorem dX5_undoTidy_1 : decode cX5_undoTidy 1 = .ok (.iconst 0, 1) := by decide +kernel
theorem dX5_undoTidy_2 : decode cX5_undoTidy 2 = .ok (.putfield 91, 3) := by decide +kernel
theorem dX5_undoTidy_5 : decode cX5_undoTidy 5 = .ok (.aload_n 0, 1) := by decide +kernel
theorem dX5_undoTidy_6 : decode cX5_undoTidy 6 = .ok (.aload_n 0, 1) := by decide +kernel
theorem dX5_undoTidy_7 : decode cX5_undoTidy 7 = .ok (.getfield 153, 3) := by decide +kernel
theorem dX5_undoTidy_10 : decode cX5_undoTidy 10 = .ok (.ifCond .ne 7, 3) := by decide +kernel
theorem dX5_undoTidy_13 : decode cX5_undoTidy 13 = .ok (.iconst 1, 1) := by decide +kernel
theorem dX5_undoTidy_14 : decode cX5_undoTidy 14 = .ok (.goto 4, 3) := by decide +kernel
theorem dX5_undoTidy_17 : decode cX5_undoTidy 17 = .ok (.iconst 0, 1) := by decide +kernel
theorem dX5_undoTidy_18 : decode cX5_undoTidy 18 = .ok (.iconst 1, 1) := by decide +kernel
theorem dX5_undoTidy_19 : decode cX5_undoTidy 19 = .ok (.invokevirtual 135, 3) := by decide +kernel
theorem dX5_undoTidy_22 : decode cX5_undoTidy 22 = .ok (.ifCond .eq 5, 3) := by decide +kernel
theorem dX5_undoTidy_25 : decode cX5_undoTidy 25 = .ok (.iconst 0, 1) := by decide +kernel
theorem dX5_undoTidy_26 : decode cX5_undoTidy 26 = .ok (.ireturn, 1) := by decide +kernel
theorem dX5_undoTidy_27 : decode cX5_undoTidy 27 = .ok (.aload_n 0, 1) := by decide +kernel
theorem dX5_undoTidy_28 : decode cX5_undoTidy 28 = .ok (.dup, 1) := by decide +kernel
theorem dX5_undoTidy_29 : decode cX5_undoTidy 29 = .ok (.getfield 153, 3) := by decide +kernel
theorem dX5_undoTidy_32 : decode cX5_undoTidy 32 = .ok (.iconst 1, 1) := by decide +kernel
theorem dX5_undoTidy_33 : decode cX5_undoTidy 33 = .ok (.isub, 1) := by decide +kernel
theorem dX5_undoTidy_34 : decode cX5_undoTidy 34 = .ok (.putfield 153, 3) := by decide +kernel
theorem dX5_undoTidy_37 : decode cX5_undoTidy 37 = .ok (.aload_n 0, 1) := by decide +kernel
theorem dX5_undoTidy_38 : decode cX5_undoTidy 38 = .ok (.getfield 78, 3) := by decide +kernel
theorem dX5_undoTidy_41 : decode cX5_undoTidy 41 = .ok (.aload_n 0, 1) := by decide +kernel
theorem dX5_undoTidy_42 : decode cX5_undoTidy 42 = .ok (.getfield 153, 3) := by decide +kernel
theorem dX5_undoTidy_45 : decode cX5_undoTidy 45 = .ok (.iaload, 1) := by decide +kernel
theorem dX5_undoTidy_46 : decode cX5_undoTidy 46 = .ok (.istore_n 1, 1) := by decide +kernel
theorem dX5_undoTidy_47 : decode cX5_undoTidy 47 = .ok (.iconst 0, 1) := by decide +kernel
theorem dX5_undoTidy_48 : decode cX5_undoTidy 48 = .ok (.istore_n 2, 1) := by decide +kernel
theorem dX5_undoTidy_49 : decode cX5_undoTidy 49 = .ok (.iload_n 2, 1) := by decide +kernel
theorem dX5_undoTidy_50 : decode cX5_undoTidy 50 = .ok (.bipush 24, 2) := by decide +kernel
theorem dX5_undoTidy_52 : decode cX5_undoTidy 52 = .ok (.if_icmp .ge 29, 3) := by decide +kernel
theorem dX5_undoTidy_55 : decode cX5_undoTidy 55 = .ok (.aload_n 0, 1) := by decide +kernel
theorem dX5_undoTidy_56 : decode cX5_undoTidy 56 = .ok (.getfield 22, 3) := by decide +kernel
theorem dX5_undoTidy_59 : decode cX5_undoTidy 59 = .ok (.iload_n 2, 1) := by decide +kernel
theorem dX5_undoTidy_60 : decode cX5_undoTidy 60 = .ok (.aload_n 0, 1) := by decide +kernel
theorem dX5_undoTidy_61 : decode cX5_undoTidy 61 = .ok (.getfield 81, 3) := by decide +kernel
theorem dX5_undoTidy_64 : decode cX5_undoTidy 64 = .ok (.bipush 24, 2) := by decide +kernel
theorem dX5_undoTidy_66 : decode cX5_undoTidy 66 = .ok (.aload_n 0, 1) := by decide +kernel
theorem dX5_undoTidy_67 : decode cX5_undoTidy 67 = .ok (.getfield 153, 3) := by decide +kernel
theorem dX5_undoTidy_70 : decode cX5_undoTidy 70 = .ok (.imul, 1) := by decide +kernel
theorem dX5_undoTidy_71 : decode cX5_undoTidy 71 = .ok (.iload_n 2, 1) := by decide +kernel
theorem dX5_undoTidy_72 : decode cX5_undoTidy 72 = .ok (.iadd, 1) := by decide +kernel
theorem dX5_undoTidy_73 : decode cX5_undoTidy 73 = .ok (.iaload, 1) := by decide +kernel
theorem dX5_undoTidy_74 : decode cX5_undoTidy 74 = .ok (.iastore, 1) := by decide +kernel
theorem dX5_undoTidy_75 : decode cX5_undoTidy 75 = .ok (.iinc 2 1, 3) := by decide +kernel
theorem dX5_undoTidy_78 : decode cX5_undoTidy 78 = .ok (.goto (-29), 3) := by decide +kernel
theorem dX5_undoTidy_81 : decode cX5_undoTidy 81 = .ok (.iconst 0, 1) := by decide +kernel
theorem dX5_undoTidy_82 : decode cX5_undoTidy 82 = .ok (.istore_n 2, 1) := by decide +kernel
theorem dX5_undoTidy_83 : decode cX5_undoTidy 83 = .ok (.iload_n 2, 1) := by decide +kernel
theorem dX5_undoTidy_84 : decode cX5_undoTidy 84 = .ok (.aload_n 0, 1) := by decide +kernel
theorem dX5_undoTidy_85 : decode cX5_undoTidy 85 = .ok (.getfield 105, 3) := by decide +kernel
theorem dX5_undoTidy_88 : decode cX5_undoTidy 88 = .ok (.if_icmp .ge 43, 3) := by decide +kernel
theorem dX5_undoTidy_91 : decode cX5_undoTidy 91 = .ok (.aload_n 0, 1) := by decide +kernel
theorem dX5_undoTidy_92 : decode cX5_undoTidy 92 = .ok (.getfield 42, 3) := by decide +kernel
theorem dX5_undoTidy_95 : decode cX5_undoTidy 95 = .ok (.iload_n 2, 1) := by decide +kernel
theorem dX5_undoTidy_96 : decode cX5_undoTidy 96 = .ok (.aload_n 0, 1) := by decide +kernel
theorem dX5_undoTidy_97 : decode cX5_undoTidy 97 = .ok (.getfield 84, 3) := by decide +kernel
theorem dX5_undoTidy_100 : decode cX5_undoTidy 100 = .ok (.aload_n 0, 1) := by decide +kernel
theorem dX5_undoTidy_101 : decode cX5_undoTidy 101 = .ok (.getfield 153, 3) := by decide +kernel
theorem dX5_undoTidy_104 : decode cX5_undoTidy 104 = .ok (.laload, 1) := by decide +kernel
theorem dX5_undoTidy_105 : decode cX5_undoTidy 105 = .ok (.iload_n 2, 1) := by decide +kernel
theorem dX5_undoTidy_106 : decode cX5_undoTidy 106 = .ok (.lshr, 1) := by decide +kernel
theorem dX5_undoTidy_107 : decode cX5_undoTidy 107 = .ok (.lconst 1, 1) := by decide +kernel
theorem dX5_undoTidy_108 : decode cX5_undoTidy 108 = .ok (.land, 1) := by decide +kernel
theorem dX5_undoTidy_109 : decode cX5_undoTidy 109 = .ok (.lconst 1, 1) := by decide +kernel
theorem dX5_undoTidy_110 : decode cX5_undoTidy 110 = .ok (.lcmp, 1) := by decide +kernel
theorem dX5_undoTidy_111 : decode cX5_undoTidy 111 = .ok (.ifCond .ne 7, 3) := by decide +kernel
theorem dX5_undoTidy_114 : decode cX5_undoTidy 114 = .ok (.iload_n 1, 1) := by decide +kernel
theorem dX5_undoTidy_115 : decode cX5_undoTidy 115 = .ok (.goto 9, 3) := by decide +kernel
theorem dX5_undoTidy_118 : decode cX5_undoTidy 118 = .ok (.aload_n 0, 1) := by decide +kernel
theorem dX5_undoTidy_119 : decode cX5_undoTidy 119 = .ok (.getfield 42, 3) := by decide +kernel
theorem dX5_undoTidy_122 : decode cX5_undoTidy 122 = .ok (.iload_n 2, 1) := by decide +kernel
theorem dX5_undoTidy_123 : decode cX5_undoTidy 123 = .ok (.iaload, 1) := by decide +kernel
theorem dX5_undoTidy_124 : decode cX5_undoTidy 124 = .ok (.iastore, 1) := by decide +kernel
theorem dX5_undoTidy_125 : decode cX5_undoTidy 125 = .ok (.iinc 2 1, 3) := by decide +kernel
theorem dX5_undoTidy_128 : decode cX5_undoTidy 128 = .ok (.goto (-45), 3) := by decide +kernel
theorem dX5_undoTidy_131 : decode cX5_undoTidy 131 = .ok (.aload_n 0, 1) := by decide +kernel
theorem dX5_undoTidy_132 : decode cX5_undoTidy 132 = .ok (.getfield 36, 3) := by decide +kernel
theorem dX5_undoTidy_135 : decode cX5_undoTidy 135 = .ok (.iload_n 1, 1) := by decide +kernel
theorem dX5_undoTidy_136 : decode cX5_undoTidy 136 = .ok (.iconst 0, 1) := by decide +kernel
theorem dX5_undoTidy_137 : decode cX5_undoTidy 137 = .ok (.bastore, 1) := by decide +kernel
theorem dX5_undoTidy_138 : decode cX5_undoTidy 138 = .ok (.aload_n 0, 1) := by decide +kernel
theorem dX5_undoTidy_139 : decode cX5_undoTidy 139 = .ok (.invokevirtual 139, 3) := by decide +kernel
theorem dX5_undoTidy_142 : decode cX5_undoTidy 142 = .ok (.iload_n 1, 1) := by decide +kernel
theorem dX5_undoTidy_143 : decode cX5_undoTidy 143 = .ok (.ireturn, 1) := by decide +kernel
theorem dX5_addRule_0 : decode cX5_addRule 0 = .ok (.aload_n 0, 1) := by decide +kernel
theorem dX5_addRule_1 : decode cX5_addRule 1 = .ok (.getfield 39, 3) := by decide +kernel
theorem dX5_addRule_4 : decode cX5_addRule 4 = .ok (.aload_n 0, 1) := by decide +kernel
theorem dX5_addRule_5 : decode cX5_addRule 5 = .ok (.getfield 105, 3) := by decide +kernel
theorem dX5_addRule_8 : decode cX5_addRule 8 = .ok (.iload_n 1, 1) := by decide +kernel
theorem dX5_addRule_9 : decode cX5_addRule 9 = .ok (.iastore, 1) := by decide +kernel
theorem dX5_addRule_10 : decode cX5_addRule 10 = .ok (.aload_n 0, 1) := by decide +kernel
theorem dX5_addRule_11 : decode cX5_addRule 11 = .ok (.getfield 42, 3) := by decide +kernel
theorem dX5_addRule_14 : decode cX5_addRule 14 = .ok (.aload_n 0, 1) := by decide +kernel
theorem dX5_addRule_15 : decode cX5_addRule 15 = .ok (.getfield 105, 3) := by decide +kernel
theorem dX5_addRule_18 : decode cX5_addRule 18 = .ok (.iload_n 2, 1) := by decide +kernel
theorem dX5_addRule_19 : decode cX5_addRule 19 = .ok (.iastore, 1) := by decide +kernel
theorem dX5_addRule_20 : decode cX5_addRule 20 = .ok (.aload_n 0, 1) := by decide +kernel
theorem dX5_addRule_21 : decode cX5_addRule 21 = .ok (.getfield 45, 3) := by decide +kernel
theorem dX5_addRule_24 : decode cX5_addRule 24 = .ok (.aload_n 0, 1) := by decide +kernel
theorem dX5_addRule_25 : decode cX5_addRule 25 = .ok (.getfield 105, 3) := by decide +kernel
theorem dX5_addRule_28 : decode cX5_addRule 28 = .ok (.iload_n 3, 1) := by decide +kernel
theorem dX5_addRule_29 : decode cX5_addRule 29 = .ok (.iastore, 1) := by decide +kernel
theorem dX5_addRule_30 : decode cX5_addRule 30 = .ok (.aload_n 0, 1) := by decide +kernel
theorem dX5_addRule_31 : decode cX5_addRule 31 = .ok (.getfield 48, 3) := by decide +kernel
theorem dX5_addRule_34 : decode cX5_addRule 34 = .ok (.aload_n 0, 1) := by decide +kernel
theorem dX5_addRule_35 : decode cX5_addRule 35 = .ok (.getfield 105, 3) := by decide +kernel
theorem dX5_addRule_38 : decode cX5_addRule 38 = .ok (.iload 4, 2) := by decide +kernel
theorem dX5_addRule_40 : decode cX5_addRule 40 = .ok (.iastore, 1) := by decide +kernel
theorem dX5_addRule_41 : decode cX5_addRule 41 = .ok (.aload_n 0, 1) := by decide +kernel
theorem dX5_addRule_42 : decode cX5_addRule 42 = .ok (.dup, 1) := by decide +kernel
theorem dX5_addRule_43 : decode cX5_addRule 43 = .ok (.getfield 105, 3) := by decide +kernel
theorem dX5_addRule_46 : decode cX5_addRule 46 = .ok (.iconst 1, 1) := by decide +kernel
theorem dX5_addRule_47 : decode cX5_addRule 47 = .ok (.iadd, 1) := by decide +kernel
theorem dX5_addRule_48 : decode cX5_addRule 48 = .ok (.putfield 105, 3) := by decide +kernel
theorem dX5_addRule_51 : decode cX5_addRule 51 = .ok (.aload_n 0, 1) := by decide +kernel
theorem dX5_addRule_52 : decode cX5_addRule 52 = .ok (.getfield 105, 3) := by decide +kernel
theorem dX5_addRule_55 : decode cX5_addRule 55 = .ok (.iconst 1, 1) := by decide +kernel
theorem dX5_addRule_56 : decode cX5_addRule 56 = .ok (.isub, 1) := by decide +kernel
theorem dX5_addRule_57 : decode cX5_addRule 57 = .ok (.ireturn, 1) := by decide +kernel
theorem dX5_simple_0 : decode cX5_simple 0 = .ok (.aload_n 0, 1) := by decide +kernel
theorem dX5_simple_1 : decode cX5_simple 1 = .ok (.iconst 0, 1) := by decide +kernel
theorem dX5_simple_2 : decode cX5_simple 2 = .ok (.putfield 91, 3) := by decide +kernel
theorem dX5_simple_5 : decode cX5_simple 5 = .ok (.aload_n 0, 1) := by decide +kernel
theorem dX5_simple_6 : decode cX5_simple 6 = .ok (.iload_n 3, 1) := by decide +kernel
theorem dX5_simple_7 : decode cX5_simple 7 = .ok (.ifCond .ne 7, 3) := by decide +kernel
theorem dX5_simple_10 : decode cX5_simple 10 = .ok (.iconst 1, 1) := by decide +kernel
theorem dX5_simple_11 : decode cX5_simple 11 = .ok (.goto 4, 3) := by decide +kernel
theorem dX5_simple_14 : decode cX5_simple 14 = .ok (.iconst 0, 1) := by decide +kernel
theorem dX5_simple_15 : decode cX5_simple 15 = .ok (.iconst 1, 1) := by decide +kernel
theorem dX5_simple_16 : decode cX5_simple 16 = .ok (.invokevirtual 135, 3) := by decide +kernel
theorem dX5_simple_19 : decode cX5_simple 19 = .ok (.ifCond .ne 25, 3) := by decide +kernel
theorem dX5_simple_22 : decode cX5_simple 22 = .ok (.aload_n 0, 1) := by decide +kernel
theorem dX5_simple_23 : decode cX5_simple 23 = .ok (.aload_n 0, 1) := by decide +kernel
theorem dX5_simple_24 : decode cX5_simple 24 = .ok (.getfield 105, 3) := by decide +kernel
theorem dX5_simple_27 : decode cX5_simple 27 = .ok (.bipush 40, 2) := by decide +kernel
theorem dX5_simple_29 : decode cX5_simple 29 = .ok (.if_icmp .ne 7, 3) := by decide +kernel
theorem dX5_simple_32 : decode cX5_simple 32 = .ok (.iconst 1, 1) := by decide +kernel
theorem dX5_simple_33 : decode cX5_simple 33 = .ok (.goto 4, 3) := by decide +kernel
theorem dX5_simple_36 : decode cX5_simple 36 = .ok (.iconst 0, 1) := by decide +kernel
theorem dX5_simple_37 : decode cX5_simple 37 = .ok (.iconst 2, 1) := by decide +kernel
theorem dX5_simple_38 : decode cX5_simple 38 = .ok (.invokevirtual 135, 3) := by decide +kernel
theorem dX5_simple_41 : decode cX5_simple 41 = .ok (.ifCond .eq 7, 3) := by decide +kernel
theorem dX5_simple_44 : decode cX5_simple 44 = .ok (.iconst 0, 1) := by decide +kernel
theorem dX5_simple_45 : decode cX5_simple 45 = .ok (.goto 11, 3) := by decide +kernel
theorem dX5_simple_48 : decode cX5_simple 48 = .ok (.aload_n 0, 1) := by decide +kernel
theorem dX5_simple_49 : decode cX5_simple 49 = .ok (.iload_n 1, 1) := by decide +kernel
theorem dX5_simple_50 : decode cX5_simple 50 = .ok (.iload_n 2, 1) := by decide +kernel
theorem dX5_simple_51 : decode cX5_simple 51 = .ok (.iconst 0, 1) := by decide +kernel
theorem dX5_simple_52 : decode cX5_simple 52 = .ok (.iconst 1, 1) := by decide +kernel
theorem dX5_simple_53 : decode cX5_simple 53 = .ok (.invokevirtual 167, 3) := by decide +kernel
theorem dX5_simple_56 : decode cX5_simple 56 = .ok (.ireturn, 1) := by decide +kernel
theorem dX5_hasTag_0 : decode cX5_hasTag 0 = .ok (.aload_n 0, 1) := by decide +kernel
theorem dX5_hasTag_1 : decode cX5_hasTag 1 = .ok (.iconst 0, 1) := by decide +kernel
theorem dX5_hasTag_2 : decode cX5_hasTag 2 = .ok (.iload_n 1, 1) := by decide +kernel
theorem dX5_hasTag_3 : decode cX5_hasTag 3 = .ok (.aload_n 0, 1) := by decide +kernel
theorem dX5_hasTag_4 : decode cX5_hasTag 4 = .ok (.iload_n 1, 1) := by decide +kernel
theorem dX5_hasTag_5 : decode cX5_hasTag 5 = .ok (.invokevirtual 150, 3) := by decide +kernel
theorem dX5_hasTag_8 : decode cX5_hasTag 8 = .ok (.ifCond .ne 7, 3) := by decide +kernel
theorem dX5_hasTag_11 : decode cX5_hasTag 11 = .ok (.iconst 1, 1) := by decide +kernel
theorem dX5_hasTag_12 : decode cX5_hasTag 12 = .ok (.goto 4, 3) := by decide +kernel
theorem dX5_hasTag_15 : decode cX5_hasTag 15 = .ok (.iconst 0, 1) := by decide +kernel
theorem dX5_hasTag_16 : decode cX5_hasTag 16 = .ok (.invokevirtual 171, 3) := by decide +kernel
theorem dX5_hasTag_19 : decode cX5_hasTag 19 = .ok (.ireturn, 1) := by decide +kernel
theorem dX5_rated_0 : decode cX5_rated 0 = .ok (.aload_n 0, 1) := by decide +kernel
theorem dX5_rated_1 : decode cX5_rated 1 = .ok (.iconst 1, 1) := by decide +kernel
theorem dX5_rated_2 : decode cX5_rated 2 = .ok (.iload_n 1, 1) := by decide +kernel
theorem dX5_rated_3 : decode cX5_rated 3 = .ok (.iload_n 1, 1) := by decide +kernel
theorem dX5_rated_4 : decode cX5_rated 4 = .ok (.iconst 0, 1) := by decide +kernel
theorem dX5_rated_5 : decode cX5_rated 5 = .ok (.iconst 5, 1) := by decide +kernel
theorem dX5_rated_6 : decode cX5_rated 6 = .ok (.invokestatic 98, 3) := by decide +kernel
theorem dX5_rated_9 : decode cX5_rated 9 = .ok (.invokevirtual 171, 3) := by decide +kernel
theorem dX5_rated_12 : decode cX5_rated 12 = .ok (.ireturn, 1) := by decide +kernel
theorem dX5_playedAtMost_0 : decode cX5_playedAtMost 0 = .ok (.aload_n 0, 1) := by decide +kernel
theorem dX5_playedAtMost_1 : decode cX5_playedAtMost 1 = .ok (.iconst 2, 1) := by decide +kernel
theorem dX5_playedAtMost_2 : decode cX5_playedAtMost 2 = .ok (.iload_n 1, 1) := by decide +kernel
theorem dX5_playedAtMost_3 : decode cX5_playedAtMost 3 = .ok (.iload_n 1, 1) := by decide +kernel
theorem dX5_playedAtMost_4 : decode cX5_playedAtMost 4 = .ok (.iconst 0, 1) := by decide +kernel
theorem dX5_playedAtMost_5 : decode cX5_playedAtMost 5 = .ok (.sipush 999, 3) := by decide +kernel
theorem dX5_playedAtMost_8 : decode cX5_playedAtMost 8 = .ok (.invokestatic 98, 3) := by decide +kernel
theorem dX5_playedAtMost_11 : decode cX5_playedAtMost 11 = .ok (.invokevirtual 171, 3) := by decide +kernel
theorem dX5_playedAtMost_14 : decode cX5_playedAtMost 14 = .ok (.ireturn, 1) := by decide +kernel
theorem dX5_asLongAs_0 : decode cX5_asLongAs 0 = .ok (.aload_n 0, 1) := by decide +kernel
theorem dX5_asLongAs_1 : decode cX5_asLongAs 1 = .ok (.iconst 3, 1) := by decide +kernel
theorem dX5_asLongAs_2 : decode cX5_asLongAs 2 = .ok (.iload_n 1, 1) := by decide +kernel
theorem dX5_asLongAs_3 : decode cX5_asLongAs 3 = .ok (.iload_n 1, 1) := by decide +kernel
theorem dX5_asLongAs_4 : decode cX5_asLongAs 4 = .ok (.iconst 1, 1) := by decide +kernel
theorem dX5_asLongAs_5 : decode cX5_asLongAs 5 = .ok (.sipush 999, 3) := by decide +kernel
theorem dX5_asLongAs_8 : decode cX5_asLongAs 8 = .ok (.invokestatic 98, 3) := by decide +kernel
theorem dX5_asLongAs_11 : decode cX5_asLongAs 11 = .ok (.invokevirtual 171, 3) := by decide +kernel
theorem dX5_asLongAs_14 : decode cX5_asLongAs 14 = .ok (.ireturn, 1) := by decide +kernel
theorem dX5_playedWithin_0 : decode cX5_playedWithin 0 = .ok (.aload_n 0, 1) := by decide +kernel
theorem dX5_playedWithin_1 : decode cX5_playedWithin 1 = .ok (.iconst 4, 1) := by decide +kernel
theorem dX5_playedWithin_2 : decode cX5_playedWithin 2 = .ok (.iload_n 1, 1) := by decide +kernel
theorem dX5_playedWithin_3 : decode cX5_playedWithin 3 = .ok (.iload_n 1, 1) := by decide +kernel
theorem dX5_playedWithin_4 : decode cX5_playedWithin 4 = .ok (.iconst 0, 1) := by decide +kernel
theorem dX5_playedWithin_5 : decode cX5_playedWithin 5 = .ok (.sipush 999, 3) := by decide +kernel
theorem dX5_playedWithin_8 : decode cX5_playedWithin 8 = .ok (.invokestatic 98, 3) := by decide +kernel
theorem dX5_playedWithin_11 : decode cX5_playedWithin 11 = .ok (.invokevirtual 171, 3) := by decide +kernel
theorem dX5_playedWithin_14 : decode cX5_playedWithin 14 = .ok (.ireturn, 1) := by decide +kernel
theorem dX5_inList_0 : decode cX5_inList 0 = .ok (.aload_n 0, 1) := by decide +kernel
theorem dX5_inList_1 : decode cX5_inList 1 = .ok (.iconst 5, 1) := by decide +kernel
theorem dX5_inList_2 : decode cX5_inList 2 = .ok (.iload_n 1, 1) := by decide +kernel
theorem dX5_inList_3 : decode cX5_inList 3 = .ok (.aload_n 0, 1) := by decide +kernel
theorem dX5_inList_4 : decode cX5_inList 4 = .ok (.iload_n 1, 1) := by decide +kernel
theorem dX5_inList_5 : decode cX5_inList 5 = .ok (.invokevirtual 175, 3) := by decide +kernel
theorem dX5_inList_8 : decode cX5_inList 8 = .ok (.ifCond .ne 7, 3) := by decide +kernel
theorem dX5_inList_11 : decode cX5_inList 11 = .ok (.iconst 1, 1) := by decide +kernel
theorem dX5_inList_12 : decode cX5_inList 12 = .ok (.goto 4, 3) := by decide +kernel
theorem dX5_inList_15 : decode cX5_inList 15 = .ok (.iconst 0, 1) := by decide +kernel
theorem dX5_inList_16 : decode cX5_inList 16 = .ok (.invokevirtual 171, 3) := by decide +kernel
theorem dX5_inList_19 : decode cX5_inList 19 = .ok (.ireturn, 1) := by decide +kernel
theorem dX5_made_0 : decode cX5_made 0 = .ok (.aload_n 0, 1) := by decide +kernel
theorem dX5_made_1 : decode cX5_made 1 = .ok (.iconst 0, 1) := by decide +kernel
theorem dX5_made_2 : decode cX5_made 2 = .ok (.putfield 91, 3) := by decide +kernel
theorem dX5_made_5 : decode cX5_made 5 = .ok (.aload_n 0, 1) := by decide +kernel
theorem dX5_made_6 : decode cX5_made 6 = .ok (.iload_n 2, 1) := by decide +kernel
theorem dX5_made_7 : decode cX5_made 7 = .ok (.invokevirtual 178, 3) := by decide +kernel
theorem dX5_made_10 : decode cX5_made 10 = .ok (.ifCond .ne 11, 3) := by decide +kernel
theorem dX5_made_13 : decode cX5_made 13 = .ok (.aload_n 0, 1) := by decide +kernel
theorem dX5_made_14 : decode cX5_made 14 = .ok (.iload_n 3, 1) := by decide +kernel
theorem dX5_made_15 : decode cX5_made 15 = .ok (.invokevirtual 178, 3) := by decide +kernel
theorem dX5_made_18 : decode cX5_made 18 = .ok (.ifCond .eq 7, 3) := by decide +kernel
theorem dX5_made_21 : decode cX5_made 21 = .ok (.iconst 1, 1) := by decide +kernel
theorem dX5_made_22 : decode cX5_made 22 = .ok (.goto 4, 3) := by decide +kernel
theorem dX5_made_25 : decode cX5_made 25 = .ok (.iconst 0, 1) := by decide +kernel
theorem dX5_made_26 : decode cX5_made 26 = .ok (.istore 4, 2) := by decide +kernel
theorem dX5_made_28 : decode cX5_made 28 = .ok (.iload 4, 2) := by decide +kernel
theorem dX5_made_30 : decode cX5_made 30 = .ok (.ifCond .eq 7, 3) := by decide +kernel
theorem dX5_made_33 : decode cX5_made 33 = .ok (.iconst 0, 1) := by decide +kernel
theorem dX5_made_34 : decode cX5_made 34 = .ok (.goto 35, 3) := by decide +kernel
theorem dX5_made_37 : decode cX5_made 37 = .ok (.iload_n 1, 1) := by decide +kernel
theorem dX5_made_38 : decode cX5_made 38 = .ok (.bipush 8, 2) := by decide +kernel
theorem dX5_made_40 : decode cX5_made 40 = .ok (.if_icmp .ne 14, 3) := by decide +kernel
theorem dX5_made_43 : decode cX5_made 43 = .ok (.iconst 1, 1) := by decide +kernel
theorem dX5_made_44 : decode cX5_made 44 = .ok (.aload_n 0, 1) := by decide +kernel
theorem dX5_made_45 : decode cX5_made 45 = .ok (.getfield 48, 3) := by decide +kernel
theorem dX5_made_48 : decode cX5_made 48 = .ok (.iload_n 2, 1) := by decide +kernel
theorem dX5_made_49 : decode cX5_made 49 = .ok (.iaload, 1) := by decide +kernel
theorem dX5_made_50 : decode cX5_made 50 = .ok (.iadd, 1) := by decide +kernel
theorem dX5_made_51 : decode cX5_made 51 = .ok (.goto 18, 3) := by decide +kernel
theorem dX5_made_54 : decode cX5_made 54 = .ok (.iconst 1, 1) := by decide +kernel
theorem dX5_made_55 : decode cX5_made 55 = .ok (.aload_n 0, 1) := by decide +kernel
theorem dX5_made_56 : decode cX5_made 56 = .ok (.getfield 48, 3) := by decide +kernel
theorem dX5_made_59 : decode cX5_made 59 = .ok (.iload_n 2, 1) := by decide +kernel
theorem dX5_made_60 : decode cX5_made 60 = .ok (.iaload, 1) := by decide +kernel
theorem dX5_made_61 : decode cX5_made 61 = .ok (.iadd, 1) := by decide +kernel
theorem dX5_made_62 : decode cX5_made 62 = .ok (.aload_n 0, 1) := by decide +kernel
theorem dX5_made_63 : decode cX5_made 63 = .ok (.getfield 48, 3) := by decide +kernel
theorem dX5_made_66 : decode cX5_made 66 = .ok (.iload_n 3, 1) := by decide +kernel
theorem dX5_made_67 : decode cX5_made 67 = .ok (.iaload, 1) := by decide +kernel
theorem dX5_made_68 : decode cX5_made 68 = .ok (.iadd, 1) := by decide +kernel
theorem dX5_made_69 : decode cX5_made 69 = .ok (.istore 5, 2) := by decide +kernel
theorem dX5_made_71 : decode cX5_made 71 = .ok (.aload_n 0, 1) := by decide +kernel
theorem dX5_made_72 : decode cX5_made 72 = .ok (.iload 4, 2) := by decide +kernel
theorem dX5_made_74 : decode cX5_made 74 = .ok (.iconst 1, 1) := by decide +kernel
theorem dX5_made_75 : decode cX5_made 75 = .ok (.invokevirtual 135, 3) := by decide +kernel
theorem dX5_made_78 : decode cX5_made 78 = .ok (.ifCond .ne 45, 3) := by decide +kernel
theorem dX5_made_81 : decode cX5_made 81 = .ok (.aload_n 0, 1) := by decide +kernel
theorem dX5_made_82 : decode cX5_made 82 = .ok (.iload 5, 2) := by decide +kernel
theorem dX5_made_84 : decode cX5_made 84 = .ok (.bipush 15, 2) := by decide +kernel
theorem dX5_made_86 : decode cX5_made 86 = .ok (.if_icmp .le 7, 3) := by decide +kernel
theorem dX5_made_89 : decode cX5_made 89 = .ok (.iconst 1, 1) := by decide +kernel
theorem dX5_made_90 : decode cX5_made 90 = .ok (.goto 4, 3) := by decide +kernel
theorem dX5_made_93 : decode cX5_made 93 = .ok (.iconst 0, 1) := by decide +kernel
theorem dX5_made_94 : decode cX5_made 94 = .ok (.iconst 2, 1) := by decide +kernel
theorem dX5_made_95 : decode cX5_made 95 = .ok (.invokevirtual 135, 3) := by decide +kernel
theorem dX5_made_98 : decode cX5_made 98 = .ok (.ifCond .ne 25, 3) := by decide +kernel
theorem dX5_made_101 : decode cX5_made 101 = .ok (.aload_n 0, 1) := by decide +kernel
theorem dX5_made_102 : decode cX5_made 102 = .ok (.aload_n 0, 1) := by decide +kernel
theorem dX5_made_103 : decode cX5_made 103 = .ok (.getfield 105, 3) := by decide +kernel
theorem dX5_made_106 : decode cX5_made 106 = .ok (.bipush 40, 2) := by decide +kernel
theorem dX5_made_108 : decode cX5_made 108 = .ok (.if_icmp .ne 7, 3) := by decide +kernel
theorem dX5_made_111 : decode cX5_made 111 = .ok (.iconst 1, 1) := by decide +kernel
theorem dX5_made_112 : decode cX5_made 112 = .ok (.goto 4, 3) := by decide +kernel
theorem dX5_made_115 : decode cX5_made 115 = .ok (.iconst 0, 1) := by decide +kernel
theorem dX5_made_116 : decode cX5_made 116 = .ok (.iconst 3, 1) := by decide +kernel
theorem dX5_made_117 : decode cX5_made 117 = .ok (.invokevirtual 135, 3) := by decide +kernel
theorem dX5_made_120 : decode cX5_made 120 = .ok (.ifCond .eq 7, 3) := by decide +kernel
theorem dX5_made_123 : decode cX5_made 123 = .ok (.iconst 0, 1) := by decide +kernel
theorem dX5_made_124 : decode cX5_made 124 = .ok (.goto 12, 3) := by decide +kernel
theorem dX5_made_127 : decode cX5_made 127 = .ok (.aload_n 0, 1) := by decide +kernel
theorem dX5_made_128 : decode cX5_made 128 = .ok (.iload_n 1, 1) := by decide +kernel
theorem dX5_made_129 : decode cX5_made 129 = .ok (.iload_n 2, 1) := by decide +kernel
theorem dX5_made_130 : decode cX5_made 130 = .ok (.iload_n 3, 1) := by decide +kernel
theorem dX5_made_131 : decode cX5_made 131 = .ok (.iload 5, 2) := by decide +kernel
theorem dX5_made_133 : decode cX5_made 133 = .ok (.invokevirtual 167, 3) := by decide +kernel
theorem dX5_made_136 : decode cX5_made 136 = .ok (.ireturn, 1) := by decide +kernel
theorem dX5_both_0 : decode cX5_both 0 = .ok (.aload_n 0, 1) := by decide +kernel
theorem dX5_both_1 : decode cX5_both 1 = .ok (.bipush 6, 2) := by decide +kernel
theorem dX5_both_3 : decode cX5_both 3 = .ok (.iload_n 1, 1) := by decide +kernel
theorem dX5_both_4 : decode cX5_both 4 = .ok (.iload_n 2, 1) := by decide +kernel
theorem dX5_both_5 : decode cX5_both 5 = .ok (.invokevirtual 181, 3) := by decide +kernel
theorem dX5_both_8 : decode cX5_both 8 = .ok (.ireturn, 1) := by decide +kernel
theorem dX5_either_0 : decode cX5_either 0 = .ok (.aload_n 0, 1) := by decide +kernel
theorem dX5_either_1 : decode cX5_either 1 = .ok (.bipush 7, 2) := by decide +kernel
theorem dX5_either_3 : decode cX5_either 3 = .ok (.iload_n 1, 1) := by decide +kernel
theorem dX5_either_4 : decode cX5_either 4 = .ok (.iload_n 2, 1) := by decide +kernel
theorem dX5_either_5 : decode cX5_either 5 = .ok (.invokevirtual 181, 3) := by decide +kernel
theorem dX5_either_8 : decode cX5_either 8 = .ok (.ireturn, 1) := by decide +kernel
theorem dX5_not_0 : decode cX5_not 0 = .ok (.aload_n 0, 1) := by decide +kernel
theorem dX5_not_1 : decode cX5_not 1 = .ok (.bipush 8, 2) := by decide +kernel
theorem dX5_not_3 : decode cX5_not 3 = .ok (.iload_n 1, 1) := by decide +kernel
theorem dX5_not_4 : decode cX5_not 4 = .ok (.iload_n 1, 1) := by decide +kernel
theorem dX5_not_5 : decode cX5_not 5 = .ok (.invokevirtual 181, 3) := by decide +kernel
theorem dX5_not_8 : decode cX5_not 8 = .ok (.ireturn, 1) := by decide +kernel
theorem dX5_isOrder_0 : decode cX5_isOrder 0 = .ok (.iload_n 0, 1) := by decide +kernel
theorem dX5_isOrder_1 : decode cX5_isOrder 1 = .ok (.bipush 115, 2) := by decide +kernel
theorem dX5_isOrder_3 : decode cX5_isOrder 3 = .ok (.if_icmp .eq 21, 3) := by decide +kernel
theorem dX5_isOrder_6 : decode cX5_isOrder 6 = .ok (.iload_n 0, 1) := by decide +kernel
theorem dX5_isOrder_7 : decode cX5_isOrder 7 = .ok (.bipush 114, 2) := by decide +kernel
theorem dX5_isOrder_9 : decode cX5_isOrder 9 = .ok (.if_icmp .eq 15, 3) := by decide +kernel
theorem dX5_isOrder_12 : decode cX5_isOrder 12 = .ok (.iload_n 0, 1) := by decide +kernel
theorem dX5_isOrder_13 : decode cX5_isOrder 13 = .ok (.bipush 112, 2) := by decide +kernel
theorem dX5_isOrder_15 : decode cX5_isOrder 15 = .ok (.if_icmp .eq 9, 3) := by decide +kernel
theorem dX5_isOrder_18 : decode cX5_isOrder 18 = .ok (.iload_n 0, 1) := by decide +kernel
theorem dX5_isOrder_19 : decode cX5_isOrder 19 = .ok (.bipush 110, 2) := by decide +kernel
theorem dX5_isOrder_21 : decode cX5_isOrder 21 = .ok (.if_icmp .ne 7, 3) := by decide +kernel
theorem dX5_isOrder_24 : decode cX5_isOrder 24 = .ok (.iconst 1, 1) := by decide +kernel
theorem dX5_isOrder_25 : decode cX5_isOrder 25 = .ok (.goto 4, 3) := by decide +kernel
theorem dX5_isOrder_28 : decode cX5_isOrder 28 = .ok (.iconst 0, 1) := by decide +kernel
theorem dX5_isOrder_29 : decode cX5_isOrder 29 = .ok (.ireturn, 1) := by decide +kernel
theorem dX5_addList_0 : decode cX5_addList 0 = .ok (.aload_n 0, 1) := by decide +kernel
theorem dX5_addList_1 : decode cX5_addList 1 = .ok (.iconst 0, 1) := by decide +kernel
theorem dX5_addList_2 : decode cX5_addList 2 = .ok (.putfield 91, 3) := by decide +kernel
theorem dX5_addList_5 : decode cX5_addList 5 = .ok (.aload_n 0, 1) := by decide +kernel
theorem dX5_addList_6 : decode cX5_addList 6 = .ok (.aload_n 0, 1) := by decide +kernel
theorem dX5_addList_7 : decode cX5_addList 7 = .ok (.iload_n 1, 1) := by decide +kernel
theorem dX5_addList_8 : decode cX5_addList 8 = .ok (.invokevirtual 178, 3) := by decide +kernel
theorem dX5_addList_11 : decode cX5_addList 11 = .ok (.iconst 1, 1) := by decide +kernel
theorem dX5_addList_12 : decode cX5_addList 12 = .ok (.invokevirtual 135, 3) := by decide +kernel
theorem dX5_addList_15 : decode cX5_addList 15 = .ok (.ifCond .ne 56, 3) := by decide +kernel
theorem dX5_addList_18 : decode cX5_addList 18 = .ok (.aload_n 0, 1) := by decide +kernel
theorem dX5_addList_19 : decode cX5_addList 19 = .ok (.iload_n 2, 1) := by decide +kernel
theorem dX5_addList_20 : decode cX5_addList 20 = .ok (.invokestatic 185, 3) := by decide +kernel
theorem dX5_addList_23 : decode cX5_addList 23 = .ok (.ifCond .eq 14, 3) := by decide +kernel
theorem dX5_addList_26 : decode cX5_addList 26 = .ok (.iload_n 3, 1) := by decide +kernel
theorem dX5_addList_27 : decode cX5_addList 27 = .ok (.iconst 0, 1) := by decide +kernel
theorem dX5_addList_28 : decode cX5_addList 28 = .ok (.sipush 9999, 3) := by decide +kernel
theorem dX5_addList_31 : decode cX5_addList 31 = .ok (.invokestatic 98, 3) := by decide +kernel
theorem dX5_addList_34 : decode cX5_addList 34 = .ok (.ifCond .ne 7, 3) := by decide +kernel
theorem dX5_addList_37 : decode cX5_addList 37 = .ok (.iconst 1, 1) := by decide +kernel
theorem dX5_addList_38 : decode cX5_addList 38 = .ok (.goto 4, 3) := by decide +kernel
theorem dX5_addList_41 : decode cX5_addList 41 = .ok (.iconst 0, 1) := by decide +kernel
theorem dX5_addList_42 : decode cX5_addList 42 = .ok (.iconst 2, 1) := by decide +kernel
theorem dX5_addList_43 : decode cX5_addList 43 = .ok (.invokevirtual 135, 3) := by decide +kernel
theorem dX5_addList_46 : decode cX5_addList 46 = .ok (.ifCond .ne 25, 3) := by decide +kernel
theorem dX5_addList_49 : decode cX5_addList 49 = .ok (.aload_n 0, 1) := by decide +kernel
theorem dX5_addList_50 : decode cX5_addList 50 = .ok (.aload_n 0, 1) := by decide +kernel
theorem dX5_addList_51 : decode cX5_addList 51 = .ok (.getfield 108, 3) := by decide +kernel
theorem dX5_addList_54 : decode cX5_addList 54 = .ok (.bipush 8, 2) := by decide +kernel
theorem dX5_addList_56 : decode cX5_addList 56 = .ok (.if_icmp .ne 7, 3) := by decide +kernel
theorem dX5_addList_59 : decode cX5_addList 59 = .ok (.iconst 1, 1) := by decide +kernel
theorem dX5_addList_60 : decode cX5_addList 60 = .ok (.goto 4, 3) := by decide +kernel
theorem dX5_addList_63 : decode cX5_addList 63 = .ok (.iconst 0, 1) := by decide +kernel
theorem dX5_addList_64 : decode cX5_addList 64 = .ok (.iconst 3, 1) := by decide +kernel
theorem dX5_addList_65 : decode cX5_addList 65 = .ok (.invokevirtual 135, 3) := by decide +kernel
theorem dX5_addList_68 : decode cX5_addList 68 = .ok (.ifCond .eq 5, 3) := by decide +kernel
theorem dX5_addList_71 : decode cX5_addList 71 = .ok (.iconst 0, 1) := by decide +kernel
theorem dX5_addList_72 : decode cX5_addList 72 = .ok (.ireturn, 1) := by decide +kernel
theorem dX5_addList_73 : decode cX5_addList 73 = .ok (.aload_n 0, 1) := by decide +kernel
theorem dX5_addList_74 : decode cX5_addList 74 = .ok (.getfield 51, 3) := by decide +kernel
theorem dX5_addList_77 : decode cX5_addList 77 = .ok (.aload_n 0, 1) := by decide +kernel
theorem dX5_addList_78 : decode cX5_addList 78 = .ok (.getfield 108, 3) := by decide +kernel
theorem dX5_addList_81 : decode cX5_addList 81 = .ok (.iload_n 1, 1) := by decide +kernel
theorem dX5_addList_82 : decode cX5_addList 82 = .ok (.iastore, 1) := by decide +kernel
theorem dX5_addList_83 : decode cX5_addList 83 = .ok (.aload_n 0, 1) := by decide +kernel
theorem dX5_addList_84 : decode cX5_addList 84 = .ok (.getfield 54, 3) := by decide +kernel
theorem dX5_addList_87 : decode cX5_addList 87 = .ok (.aload_n 0, 1) := by decide +kernel
theorem dX5_addList_88 : decode cX5_addList 88 = .ok (.getfield 108, 3) := by decide +kernel
theorem dX5_addList_91 : decode cX5_addList 91 = .ok (.iload_n 2, 1) := by decide +kernel
theorem dX5_addList_92 : decode cX5_addList 92 = .ok (.castore, 1) := by decide +kernel
theorem dX5_addList_93 : decode cX5_addList 93 = .ok (.aload_n 0, 1) := by decide +kernel
theorem dX5_addList_94 : decode cX5_addList 94 = .ok (.getfield 57, 3) := by decide +kernel
theorem dX5_addList_97 : decode cX5_addList 97 = .ok (.aload_n 0, 1) := by decide +kernel
theorem dX5_addList_98 : decode cX5_addList 98 = .ok (.getfield 108, 3) := by decide +kernel
theorem dX5_addList_101 : decode cX5_addList 101 = .ok (.iload_n 3, 1) := by decide +kernel
theorem dX5_addList_102 : decode cX5_addList 102 = .ok (.iastore, 1) := by decide +kernel
theorem dX5_addList_103 : decode cX5_addList 103 = .ok (.aload_n 0, 1) := by decide +kernel
theorem dX5_addList_104 : decode cX5_addList 104 = .ok (.dup, 1) := by decide +kernel
theorem dX5_addList_105 : decode cX5_addList 105 = .ok (.getfield 108, 3) := by decide +kernel
theorem dX5_addList_108 : decode cX5_addList 108 = .ok (.iconst 1, 1) := by decide +kernel
theorem dX5_addList_109 : decode cX5_addList 109 = .ok (.iadd, 1) := by decide +kernel
theorem dX5_addList_110 : decode cX5_addList 110 = .ok (.putfield 108, 3) := by decide +kernel
theorem dX5_addList_113 : decode cX5_addList 113 = .ok (.aload_n 0, 1) := by decide +kernel
theorem dX5_addList_114 : decode cX5_addList 114 = .ok (.invokevirtual 129, 3) := by decide +kernel
theorem dX5_addList_117 : decode cX5_addList 117 = .ok (.aload_n 0, 1) := by decide +kernel
theorem dX5_addList_118 : decode cX5_addList 118 = .ok (.getfield 108, 3) := by decide +kernel
theorem dX5_addList_121 : decode cX5_addList 121 = .ok (.iconst 1, 1) := by decide +kernel
theorem dX5_addList_122 : decode cX5_addList 122 = .ok (.isub, 1) := by decide +kernel
theorem dX5_addList_123 : decode cX5_addList 123 = .ok (.ireturn, 1) := by decide +kernel
theorem dX5_asked_0 : decode cX5_asked 0 = .ok (.aload_n 0, 1) := by decide +kernel
theorem dX5_asked_1 : decode cX5_asked 1 = .ok (.getfield 39, 3) := by decide +kernel
theorem dX5_asked_4 : decode cX5_asked 4 = .ok (.iload_n 1, 1) := by decide +kernel
theorem dX5_asked_5 : decode cX5_asked 5 = .ok (.iaload, 1) := by decide +kernel
theorem dX5_asked_6 : decode cX5_asked 6 = .ok (.iconst 5, 1) := by decide +kernel
theorem dX5_asked_7 : decode cX5_asked 7 = .ok (.if_icmp .ne 28, 3) := by decide +kernel
theorem dX5_asked_10 : decode cX5_asked 10 = .ok (.iconst 1, 1) := by decide +kernel
theorem dX5_asked_11 : decode cX5_asked 11 = .ok (.aload_n 0, 1) := by decide +kernel
theorem dX5_asked_12 : decode cX5_asked 12 = .ok (.getfield 42, 3) := by decide +kernel
theorem dX5_asked_15 : decode cX5_asked 15 = .ok (.iload_n 1, 1) := by decide +kernel
theorem dX5_asked_16 : decode cX5_asked 16 = .ok (.iaload, 1) := by decide +kernel
theorem dX5_asked_17 : decode cX5_asked 17 = .ok (.ishl, 1) := by decide +kernel
theorem dX5_asked_18 : decode cX5_asked 18 = .ok (.aload_n 0, 1) := by decide +kernel
theorem dX5_asked_19 : decode cX5_asked 19 = .ok (.aload_n 0, 1) := by decide +kernel
theorem dX5_asked_20 : decode cX5_asked 20 = .ok (.getfield 51, 3) := by decide +kernel
theorem dX5_asked_23 : decode cX5_asked 23 = .ok (.aload_n 0, 1) := by decide +kernel
theorem dX5_asked_24 : decode cX5_asked 24 = .ok (.getfield 42, 3) := by decide +kernel
theorem dX5_asked_27 : decode cX5_asked 27 = .ok (.iload_n 1, 1) := by decide +kernel
theorem dX5_asked_28 : decode cX5_asked 28 = .ok (.iaload, 1) := by decide +kernel
theorem dX5_asked_29 : decode cX5_asked 29 = .ok (.iaload, 1) := by decide +kernel
theorem dX5_asked_30 : decode cX5_asked 30 = .ok (.invokevirtual 189, 3) := by decide +kernel
theorem dX5_asked_33 : decode cX5_asked 33 = .ok (.ior, 1) := by decide +kernel
theorem dX5_asked_34 : decode cX5_asked 34 = .ok (.ireturn, 1) := by decide +kernel
theorem dX5_asked_35 : decode cX5_asked 35 = .ok (.aload_n 0, 1) := by decide +kernel
theorem dX5_asked_36 : decode cX5_asked 36 = .ok (.getfield 39, 3) := by decide +kernel
theorem dX5_asked_39 : decode cX5_asked 39 = .ok (.iload_n 1, 1) := by decide +kernel
theorem dX5_asked_40 : decode cX5_asked 40 = .ok (.iaload, 1) := by decide +kernel
theorem dX5_asked_41 : decode cX5_asked 41 = .ok (.iconst 5, 1) := by decide +kernel
theorem dX5_asked_42 : decode cX5_asked 42 = .ok (.if_icmp .ge 7, 3) := by decide +kernel
theorem dX5_asked_45 : decode cX5_asked 45 = .ok (.iconst 0, 1) := by decide +kernel
theorem dX5_asked_46 : decode cX5_asked 46 = .ok (.goto 13, 3) := by decide +kernel
theorem dX5_asked_49 : decode cX5_asked 49 = .ok (.aload_n 0, 1) := by decide +kernel
theorem dX5_asked_50 : decode cX5_asked 50 = .ok (.aload_n 0, 1) := by decide +kernel
theorem dX5_asked_51 : decode cX5_asked 51 = .ok (.getfield 42, 3) := by decide +kernel
theorem dX5_asked_54 : decode cX5_asked 54 = .ok (.iload_n 1, 1) := by decide +kernel
theorem dX5_asked_55 : decode cX5_asked 55 = .ok (.iaload, 1) := by decide +kernel
theorem dX5_asked_56 : decode cX5_asked 56 = .ok (.invokevirtual 189, 3) := by decide +kernel
theorem dX5_asked_59 : decode cX5_asked 59 = .ok (.istore_n 2, 1) := by decide +kernel
theorem dX5_asked_60 : decode cX5_asked 60 = .ok (.aload_n 0, 1) := by decide +kernel
theorem dX5_asked_61 : decode cX5_asked 61 = .ok (.getfield 39, 3) := by decide +kernel
theorem dX5_asked_64 : decode cX5_asked 64 = .ok (.iload_n 1, 1) := by decide +kernel
theorem dX5_asked_65 : decode cX5_asked 65 = .ok (.iaload, 1) := by decide +kernel
theorem dX5_asked_66 : decode cX5_asked 66 = .ok (.bipush 6, 2) := by decide +kernel
theorem dX5_asked_68 : decode cX5_asked 68 = .ok (.if_icmp .eq 14, 3) := by decide +kernel
theorem dX5_asked_71 : decode cX5_asked 71 = .ok (.aload_n 0, 1) := by decide +kernel
theorem dX5_asked_72 : decode cX5_asked 72 = .ok (.getfield 39, 3) := by decide +kernel
theorem dX5_asked_75 : decode cX5_asked 75 = .ok (.iload_n 1, 1) := by decide +kernel
theorem dX5_asked_76 : decode cX5_asked 76 = .ok (.iaload, 1) := by decide +kernel
theorem dX5_asked_77 : decode cX5_asked 77 = .ok (.bipush 7, 2) := by decide +kernel
theorem dX5_asked_79 : decode cX5_asked 79 = .ok (.if_icmp .ne 18, 3) := by decide +kernel
theorem dX5_asked_82 : decode cX5_asked 82 = .ok (.iload_n 2, 1) := by decide +kernel
theorem dX5_asked_83 : decode cX5_asked 83 = .ok (.aload_n 0, 1) := by decide +kernel
theorem dX5_asked_84 : decode cX5_asked 84 = .ok (.aload_n 0, 1) := by decide +kernel
theorem dX5_asked_85 : decode cX5_asked 85 = .ok (.getfield 45, 3) := by decide +kernel
theorem dX5_asked_88 : decode cX5_asked 88 = .ok (.iload_n 1, 1) := by decide +kernel
theorem dX5_asked_89 : decode cX5_asked 89 = .ok (.iaload, 1) := by decide +kernel
theorem dX5_asked_90 : decode cX5_asked 90 = .ok (.invokevirtual 189, 3) := by decide +kernel
theorem dX5_asked_93 : decode cX5_asked 93 = .ok (.ior, 1) := by decide +kernel
theorem dX5_asked_94 : decode cX5_asked 94 = .ok (.goto 4, 3) := by decide +kernel
theorem dX5_asked_97 : decode cX5_asked 97 = .ok (.iload_n 2, 1) := by decide +kernel
theorem dX5_asked_98 : decode cX5_asked 98 = .ok (.ireturn, 1) := by decide +kernel
theorem dX5_setRule_0 : decode cX5_setRule 0 = .ok (.aload_n 0, 1) := by decide +kernel
theorem dX5_setRule_1 : decode cX5_setRule 1 = .ok (.iconst 0, 1) := by decide +kernel
theorem dX5_setRule_2 : decode cX5_setRule 2 = .ok (.putfield 91, 3) := by decide +kernel
theorem dX5_setRule_5 : decode cX5_setRule 5 = .ok (.aload_n 0, 1) := by decide +kernel
theorem dX5_setRule_6 : decode cX5_setRule 6 = .ok (.aload_n 0, 1) := by decide +kernel
theorem dX5_setRule_7 : decode cX5_setRule 7 = .ok (.iload_n 1, 1) := by decide +kernel
theorem dX5_setRule_8 : decode cX5_setRule 8 = .ok (.invokevirtual 175, 3) := by decide +kernel
theorem dX5_setRule_11 : decode cX5_setRule 11 = .ok (.ifCond .ne 11, 3) := by decide +kernel
theorem dX5_setRule_14 : decode cX5_setRule 14 = .ok (.aload_n 0, 1) := by decide +kernel
theorem dX5_setRule_15 : decode cX5_setRule 15 = .ok (.iload_n 2, 1) := by decide +kernel
theorem dX5_setRule_16 : decode cX5_setRule 16 = .ok (.invokevirtual 178, 3) := by decide +kernel
theorem dX5_setRule_19 : decode cX5_setRule 19 = .ok (.ifCond .eq 7, 3) := by decide +kernel
theorem dX5_setRule_22 : decode cX5_setRule 22 = .ok (.iconst 1, 1) := by decide +kernel
theorem dX5_setRule_23 : decode cX5_setRule 23 = .ok (.goto 4, 3) := by decide +kernel
theorem dX5_setRule_26 : decode cX5_setRule 26 = .ok (.iconst 0, 1) := by decide +kernel
theorem dX5_setRule_27 : decode cX5_setRule 27 = .ok (.iconst 1, 1) := by decide +kernel
theorem dX5_setRule_28 : decode cX5_setRule 28 = .ok (.invokevirtual 135, 3) := by decide +kernel
theorem dX5_setRule_31 : decode cX5_setRule 31 = .ok (.ifCond .ne 29, 3) := by decide +kernel
theorem dX5_setRule_34 : decode cX5_setRule 34 = .ok (.aload_n 0, 1) := by decide +kernel
theorem dX5_setRule_35 : decode cX5_setRule 35 = .ok (.aload_n 0, 1) := by decide +kernel
theorem dX5_setRule_36 : decode cX5_setRule 36 = .ok (.iload_n 2, 1) := by decide +kernel
theorem dX5_setRule_37 : decode cX5_setRule 37 = .ok (.invokevirtual 189, 3) := by decide +kernel
theorem dX5_setRule_40 : decode cX5_setRule 40 = .ok (.iload_n 1, 1) := by decide +kernel
theorem dX5_setRule_41 : decode cX5_setRule 41 = .ok (.ishr, 1) := by decide +kernel
theorem dX5_setRule_42 : decode cX5_setRule 42 = .ok (.iconst 1, 1) := by decide +kernel
theorem dX5_setRule_43 : decode cX5_setRule 43 = .ok (.iand, 1) := by decide +kernel
theorem dX5_setRule_44 : decode cX5_setRule 44 = .ok (.iconst 1, 1) := by decide +kernel
theorem dX5_setRule_45 : decode cX5_setRule 45 = .ok (.if_icmp .ne 7, 3) := by decide +kernel
theorem dX5_setRule_48 : decode cX5_setRule 48 = .ok (.iconst 1, 1) := by decide +kernel
theorem dX5_setRule_49 : decode cX5_setRule 49 = .ok (.goto 4, 3) := by decide +kernel
theorem dX5_setRule_52 : decode cX5_setRule 52 = .ok (.iconst 0, 1) := by decide +kernel
theorem dX5_setRule_53 : decode cX5_setRule 53 = .ok (.iconst 2, 1) := by decide +kernel
theorem dX5_setRule_54 : decode cX5_setRule 54 = .ok (.invokevirtual 135, 3) := by decide +kernel
theorem dX5_setRule_57 : decode cX5_setRule 57 = .ok (.ifCond .eq 5, 3) := by decide +kernel
theorem dX5_setRule_60 : decode cX5_setRule 60 = .ok (.iconst 0, 1) := by decide +kernel
theorem dX5_setRule_61 : decode cX5_setRule 61 = .ok (.ireturn, 1) := by decide +kernel
theorem dX5_setRule_62 : decode cX5_setRule 62 = .ok (.aload_n 0, 1) := by decide +kernel
theorem dX5_setRule_63 : decode cX5_setRule 63 = .ok (.getfield 51, 3) := by decide +kernel
theorem dX5_setRule_66 : decode cX5_setRule 66 = .ok (.iload_n 1, 1) := by decide +kernel
theorem dX5_setRule_67 : decode cX5_setRule 67 = .ok (.iaload, 1) := by decide +kernel
theorem dX5_setRule_68 : decode cX5_setRule 68 = .ok (.istore_n 3, 1) := by decide +kernel
theorem dX5_setRule_69 : decode cX5_setRule 69 = .ok (.aload_n 0, 1) := by decide +kernel
theorem dX5_setRule_70 : decode cX5_setRule 70 = .ok (.getfield 51, 3) := by decide +kernel
theorem dX5_setRule_73 : decode cX5_setRule 73 = .ok (.iload_n 1, 1) := by decide +kernel
theorem dX5_setRule_74 : decode cX5_setRule 74 = .ok (.iload_n 2, 1) := by decide +kernel
theorem dX5_setRule_75 : decode cX5_setRule 75 = .ok (.iastore, 1) := by decide +kernel
theorem dX5_setRule_76 : decode cX5_setRule 76 = .ok (.aload_n 0, 1) := by decide +kernel
theorem dX5_setRule_77 : decode cX5_setRule 77 = .ok (.invokevirtual 139, 3) := by decide +kernel
theorem dX5_setRule_80 : decode cX5_setRule 80 = .ok (.iload_n 3, 1) := by decide +kernel
theorem dX5_setRule_81 : decode cX5_setRule 81 = .ok (.ireturn, 1) := by decide +kernel
theorem dX5_setOrder_0 : decode cX5_setOrder 0 = .ok (.aload_n 0, 1) := by decide +kernel
theorem dX5_setOrder_1 : decode cX5_setOrder 1 = .ok (.iconst 0, 1) := by decide +kernel
theorem dX5_setOrder_2 : decode cX5_setOrder 2 = .ok (.putfield 91, 3) := by decide +kernel
theorem dX5_setOrder_5 : decode cX5_setOrder 5 = .ok (.aload_n 0, 1) := by decide +kernel
theorem dX5_setOrder_6 : decode cX5_setOrder 6 = .ok (.aload_n 0, 1) := by decide +kernel
theorem dX5_setOrder_7 : decode cX5_setOrder 7 = .ok (.iload_n 1, 1) := by decide +kernel
theorem dX5_setOrder_8 : decode cX5_setOrder 8 = .ok (.invokevirtual 175, 3) := by decide +kernel
theorem dX5_setOrder_11 : decode cX5_setOrder 11 = .ok (.iconst 1, 1) := by decide +kernel
theorem dX5_setOrder_12 : decode cX5_setOrder 12 = .ok (.invokevirtual 135, 3) := by decide +kernel
theorem dX5_setOrder_15 : decode cX5_setOrder 15 = .ok (.ifCond .ne 23, 3) := by decide +kernel
theorem dX5_setOrder_18 : decode cX5_setOrder 18 = .ok (.aload_n 0, 1) := by decide +kernel
theorem dX5_setOrder_19 : decode cX5_setOrder 19 = .ok (.iload_n 2, 1) := by decide +kernel
theorem dX5_setOrder_20 : decode cX5_setOrder 20 = .ok (.invokestatic 185, 3) := by decide +kernel
theorem dX5_setOrder_23 : decode cX5_setOrder 23 = .ok (.ifCond .ne 7, 3) := by decide +kernel
theorem dX5_setOrder_26 : decode cX5_setOrder 26 = .ok (.iconst 1, 1) := by decide +kernel
theorem dX5_setOrder_27 : decode cX5_setOrder 27 = .ok (.goto 4, 3) := by decide +kernel
theorem dX5_setOrder_30 : decode cX5_setOrder 30 = .ok (.iconst 0, 1) := by decide +kernel
theorem dX5_setOrder_31 : decode cX5_setOrder 31 = .ok (.iconst 2, 1) := by decide +kernel
theorem dX5_setOrder_32 : decode cX5_setOrder 32 = .ok (.invokevirtual 135, 3) := by decide +kernel
theorem dX5_setOrder_35 : decode cX5_setOrder 35 = .ok (.ifCond .eq 5, 3) := by decide +kernel
theorem dX5_setOrder_38 : decode cX5_setOrder 38 = .ok (.iconst 0, 1) := by decide +kernel
theorem dX5_setOrder_39 : decode cX5_setOrder 39 = .ok (.ireturn, 1) := by decide +kernel
theorem dX5_setOrder_40 : decode cX5_setOrder 40 = .ok (.aload_n 0, 1) := by decide +kernel
theorem dX5_setOrder_41 : decode cX5_setOrder 41 = .ok (.getfield 54, 3) := by decide +kernel
theorem dX5_setOrder_44 : decode cX5_setOrder 44 = .ok (.iload_n 1, 1) := by decide +kernel
theorem dX5_setOrder_45 : decode cX5_setOrder 45 = .ok (.caload, 1) := by decide +kernel
theorem dX5_setOrder_46 : decode cX5_setOrder 46 = .ok (.istore_n 3, 1) := by decide +kernel
theorem dX5_setOrder_47 : decode cX5_setOrder 47 = .ok (.aload_n 0, 1) := by decide +kernel
theorem dX5_setOrder_48 : decode cX5_setOrder 48 = .ok (.getfield 54, 3) := by decide +kernel
theorem dX5_setOrder_51 : decode cX5_setOrder 51 = .ok (.iload_n 1, 1) := by decide +kernel
theorem dX5_setOrder_52 : decode cX5_setOrder 52 = .ok (.iload_n 2, 1) := by decide +kernel
theorem dX5_setOrder_53 : decode cX5_setOrder 53 = .ok (.castore, 1) := by decide +kernel
theorem dX5_setOrder_54 : decode cX5_setOrder 54 = .ok (.aload_n 0, 1) := by decide +kernel
theorem dX5_setOrder_55 : decode cX5_setOrder 55 = .ok (.invokevirtual 139, 3) := by decide +kernel
theorem dX5_setOrder_58 : decode cX5_setOrder 58 = .ok (.iload_n 3, 1) := by decide +kernel
theorem dX5_setOrder_59 : decode cX5_setOrder 59 = .ok (.ireturn, 1) := by decide +kernel
theorem dX5_setLimit_0 : decode cX5_setLimit 0 = .ok (.aload_n 0, 1) := by decide +kernel
theorem dX5_setLimit_1 : decode cX5_setLimit 1 = .ok (.iconst 0, 1) := by decide +kernel
theorem dX5_setLimit_2 : decode cX5_setLimit 2 = .ok (.putfield 91, 3) := by decide +kernel
theorem dX5_setLimit_5 : decode cX5_setLimit 5 = .ok (.aload_n 0, 1) := by decide +kernel
theorem dX5_setLimit_6 : decode cX5_setLimit 6 = .ok (.aload_n 0, 1) := by decide +kernel
theorem dX5_setLimit_7 : decode cX5_setLimit 7 = .ok (.iload_n 1, 1) := by decide +kernel
theorem dX5_setLimit_8 : decode cX5_setLimit 8 = .ok (.invokevirtual 175, 3) := by decide +kernel
theorem dX5_setLimit_11 : decode cX5_setLimit 11 = .ok (.iconst 1, 1) := by decide +kernel
theorem dX5_setLimit_12 : decode cX5_setLimit 12 = .ok (.invokevirtual 135, 3) := by decide +kernel
theorem dX5_setLimit_15 : decode cX5_setLimit 15 = .ok (.ifCond .ne 27, 3) := by decide +kernel
theorem dX5_setLimit_18 : decode cX5_setLimit 18 = .ok (.aload_n 0, 1) := by decide +kernel
theorem dX5_setLimit_19 : decode cX5_setLimit 19 = .ok (.iload_n 2, 1) := by decide +kernel
theorem dX5_setLimit_20 : decode cX5_setLimit 20 = .ok (.iconst 0, 1) := by decide +kernel
theorem dX5_setLimit_21 : decode cX5_setLimit 21 = .ok (.sipush 9999, 3) := by decide +kernel
theorem dX5_setLimit_24 : decode cX5_setLimit 24 = .ok (.invokestatic 98, 3) := by decide +kernel
theorem dX5_setLimit_27 : decode cX5_setLimit 27 = .ok (.ifCond .ne 7, 3) := by decide +kernel
theorem dX5_setLimit_30 : decode cX5_setLimit 30 = .ok (.iconst 1, 1) := by decide +kernel
theorem dX5_setLimit_31 : decode cX5_setLimit 31 = .ok (.goto 4, 3) := by decide +kernel
theorem dX5_setLimit_34 : decode cX5_setLimit 34 = .ok (.iconst 0, 1) := by decide +kernel
theorem dX5_setLimit_35 : decode cX5_setLimit 35 = .ok (.iconst 2, 1) := by decide +kernel
theorem dX5_setLimit_36 : decode cX5_setLimit 36 = .ok (.invokevirtual 135, 3) := by decide +kernel
theorem dX5_setLimit_39 : decode cX5_setLimit 39 = .ok (.ifCond .eq 5, 3) := by decide +kernel
theorem dX5_setLimit_42 : decode cX5_setLimit 42 = .ok (.iconst 0, 1) := by decide +kernel
theorem dX5_setLimit_43 : decode cX5_setLimit 43 = .ok (.ireturn, 1) := by decide +kernel
theorem dX5_setLimit_44 : decode cX5_setLimit 44 = .ok (.aload_n 0, 1) := by decide +kernel
theorem dX5_setLimit_45 : decode cX5_setLimit 45 = .ok (.getfield 57, 3) := by decide +kernel
theorem dX5_setLimit_48 : decode cX5_setLimit 48 = .ok (.iload_n 1, 1) := by decide +kernel
theorem dX5_setLimit_49 : decode cX5_setLimit 49 = .ok (.iaload, 1) := by decide +kernel
theorem dX5_setLimit_50 : decode cX5_setLimit 50 = .ok (.istore_n 3, 1) := by decide +kernel
theorem dX5_setLimit_51 : decode cX5_setLimit 51 = .ok (.aload_n 0, 1) := by decide +kernel
theorem dX5_setLimit_52 : decode cX5_setLimit 52 = .ok (.getfield 57, 3) := by decide +kernel
theorem dX5_setLimit_55 : decode cX5_setLimit 55 = .ok (.iload_n 1, 1) := by decide +kernel
theorem dX5_setLimit_56 : decode cX5_setLimit 56 = .ok (.iload_n 2, 1) := by decide +kernel
theorem dX5_setLimit_57 : decode cX5_setLimit 57 = .ok (.iastore, 1) := by decide +kernel
theorem dX5_setLimit_58 : decode cX5_setLimit 58 = .ok (.aload_n 0, 1) := by decide +kernel
theorem dX5_setLimit_59 : decode cX5_setLimit 59 = .ok (.invokevirtual 139, 3) := by decide +kernel
theorem dX5_setLimit_62 : decode cX5_setLimit 62 = .ok (.iload_n 3, 1) := by decide +kernel
theorem dX5_setLimit_63 : decode cX5_setLimit 63 = .ok (.ireturn, 1) := by decide +kernel
theorem dX5_tracks_0 : decode cX5_tracks 0 = .ok (.aload_n 0, 1) := by decide +kernel
theorem dX5_tracks_1 : decode cX5_tracks 1 = .ok (.iconst 0, 1) := by decide +kernel
theorem dX5_tracks_2 : decode cX5_tracks 2 = .ok (.putfield 91, 3) := by decide +kernel
theorem dX5_tracks_5 : decode cX5_tracks 5 = .ok (.aload_n 0, 1) := by decide +kernel
theorem dX5_tracks_6 : decode cX5_tracks 6 = .ok (.invokevirtual 146, 3) := by decide +kernel
theorem dX5_tracks_9 : decode cX5_tracks 9 = .ok (.ireturn, 1) := by decide +kernel
theorem dX5_today_0 : decode cX5_today 0 = .ok (.aload_n 0, 1) := by decide +kernel
theorem dX5_today_1 : decode cX5_today 1 = .ok (.iconst 0, 1) := by decide +kernel
theorem dX5_today_2 : decode cX5_today 2 = .ok (.putfield 91, 3) := by decide +kernel
theorem dX5_today_5 : decode cX5_today 5 = .ok (.aload_n 0, 1) := by decide +kernel
theorem dX5_today_6 : decode cX5_today 6 = .ok (.getfield 111, 3) := by decide +kernel
theorem dX5_today_9 : decode cX5_today 9 = .ok (.ireturn, 1) := by decide +kernel
theorem dX5_lengthOf_0 : decode cX5_lengthOf 0 = .ok (.aload_n 0, 1) := by decide +kernel
theorem dX5_lengthOf_1 : decode cX5_lengthOf 1 = .ok (.iconst 0, 1) := by decide +kernel
theorem dX5_lengthOf_2 : decode cX5_lengthOf 2 = .ok (.putfield 91, 3) := by decide +kernel
theorem dX5_lengthOf_5 : decode cX5_lengthOf 5 = .ok (.aload_n 0, 1) := by decide +kernel
theorem dX5_lengthOf_6 : decode cX5_lengthOf 6 = .ok (.aload_n 0, 1) := by decide +kernel
theorem dX5_lengthOf_7 : decode cX5_lengthOf 7 = .ok (.iload_n 1, 1) := by decide +kernel
theorem dX5_lengthOf_8 : decode cX5_lengthOf 8 = .ok (.invokevirtual 142, 3) := by decide +kernel
theorem dX5_lengthOf_11 : decode cX5_lengthOf 11 = .ok (.iconst 1, 1) := by decide +kernel
theorem dX5_lengthOf_12 : decode cX5_lengthOf 12 = .ok (.invokevirtual 135, 3) := by decide +kernel
theorem dX5_lengthOf_15 : decode cX5_lengthOf 15 = .ok (.ifCond .eq 7, 3) := by decide +kernel
theorem dX5_lengthOf_18 : decode cX5_lengthOf 18 = .ok (.iconst 0, 1) := by decide +kernel
theorem dX5_lengthOf_19 : decode cX5_lengthOf 19 = .ok (.goto 9, 3) := by decide +kernel
theorem dX5_lengthOf_22 : decode cX5_lengthOf 22 = .ok (.aload_n 0, 1) := by decide +kernel
theorem dX5_lengthOf_23 : decode cX5_lengthOf 23 = .ok (.getfield 7, 3) := by decide +kernel
theorem dX5_lengthOf_26 : decode cX5_lengthOf 26 = .ok (.iload_n 1, 1) := by decide +kernel
theorem dX5_lengthOf_27 : decode cX5_lengthOf 27 = .ok (.iaload, 1) := by decide +kernel
theorem dX5_lengthOf_28 : decode cX5_lengthOf 28 = .ok (.ireturn, 1) := by decide +kernel
theorem dX5_ratingOf_0 : decode cX5_ratingOf 0 = .ok (.aload_n 0, 1) := by decide +kernel
theorem dX5_ratingOf_1 : decode cX5_ratingOf 1 = .ok (.iconst 0, 1) := by decide +kernel
theorem dX5_ratingOf_2 : decode cX5_ratingOf 2 = .ok (.putfield 91, 3) := by decide +kernel
theorem dX5_ratingOf_5 : decode cX5_ratingOf 5 = .ok (.aload_n 0, 1) := by decide +kernel
theorem dX5_ratingOf_6 : decode cX5_ratingOf 6 = .ok (.aload_n 0, 1) := by decide +kernel
theorem dX5_ratingOf_7 : decode cX5_ratingOf 7 = .ok (.iload_n 1, 1) := by decide +kernel
theorem dX5_ratingOf_8 : decode cX5_ratingOf 8 = .ok (.invokevirtual 142, 3) := by decide +kernel
theorem dX5_ratingOf_11 : decode cX5_ratingOf 11 = .ok (.iconst 1, 1) := by decide +kernel
theorem dX5_ratingOf_12 : decode cX5_ratingOf 12 = .ok (.invokevirtual 135, 3) := by decide +kernel
theorem dX5_ratingOf_15 : decode cX5_ratingOf 15 = .ok (.ifCond .eq 7, 3) := by decide +kernel
theorem dX5_ratingOf_18 : decode cX5_ratingOf 18 = .ok (.iconst 0, 1) := by decide +kernel
theorem dX5_ratingOf_19 : decode cX5_ratingOf 19 = .ok (.goto 9, 3) := by decide +kernel
theorem dX5_ratingOf_22 : decode cX5_ratingOf 22 = .ok (.aload_n 0, 1) := by decide +kernel
theorem dX5_ratingOf_23 : decode cX5_ratingOf 23 = .ok (.getfield 13, 3) := by decide +kernel
theorem dX5_ratingOf_26 : decode cX5_ratingOf 26 = .ok (.iload_n 1, 1) := by decide +kernel
theorem dX5_ratingOf_27 : decode cX5_ratingOf 27 = .ok (.iaload, 1) := by decide +kernel
theorem dX5_ratingOf_28 : decode cX5_ratingOf 28 = .ok (.ireturn, 1) := by decide +kernel
theorem dX5_playsOf_0 : decode cX5_playsOf 0 = .ok (.aload_n 0, 1) := by decide +kernel
theorem dX5_playsOf_1 : decode cX5_playsOf 1 = .ok (.iconst 0, 1) := by decide +kernel
theorem dX5_playsOf_2 : decode cX5_playsOf 2 = .ok (.putfield 91, 3) := by decide +kernel
theorem dX5_playsOf_5 : decode cX5_playsOf 5 = .ok (.aload_n 0, 1) := by decide +kernel
theorem dX5_playsOf_6 : decode cX5_playsOf 6 = .ok (.aload_n 0, 1) := by decide +kernel
theorem dX5_playsOf_7 : decode cX5_playsOf 7 = .ok (.iload_n 1, 1) := by decide +kernel
theorem dX5_playsOf_8 : decode cX5_playsOf 8 = .ok (.invokevirtual 142, 3) := by decide +kernel
theorem dX5_playsOf_11 : decode cX5_playsOf 11 = .ok (.iconst 1, 1) := by decide +kernel
theorem dX5_playsOf_12 : decode cX5_playsOf 12 = .ok (.invokevirtual 135, 3) := by decide +kernel
theorem dX5_playsOf_15 : decode cX5_playsOf 15 = .ok (.ifCond .eq 7, 3) := by decide +kernel
theorem dX5_playsOf_18 : decode cX5_playsOf 18 = .ok (.iconst 0, 1) := by decide +kernel
theorem dX5_playsOf_19 : decode cX5_playsOf 19 = .ok (.goto 9, 3) := by decide +kernel
theorem dX5_playsOf_22 : decode cX5_playsOf 22 = .ok (.aload_n 0, 1) := by decide +kernel
theorem dX5_playsOf_23 : decode cX5_playsOf 23 = .ok (.getfield 16, 3) := by decide +kernel
theorem dX5_playsOf_26 : decode cX5_playsOf 26 = .ok (.iload_n 1, 1) := by decide +kernel
theorem dX5_playsOf_27 : decode cX5_playsOf 27 = .ok (.iaload, 1) := by decide +kernel
theorem dX5_playsOf_28 : decode cX5_playsOf 28 = .ok (.ireturn, 1) := by decide +kernel
theorem dX5_playedLast_0 : decode cX5_playedLast 0 = .ok (.aload_n 0, 1) := by decide +kernel
theorem dX5_playedLast_1 : decode cX5_playedLast 1 = .ok (.iconst 0, 1) := by decide +kernel
theorem dX5_playedLast_2 : decode cX5_playedLast 2 = .ok (.putfield 91, 3) := by decide +kernel
theorem dX5_playedLast_5 : decode cX5_playedLast 5 = .ok (.aload_n 0, 1) := by decide +kernel
theorem dX5_playedLast_6 : decode cX5_playedLast 6 = .ok (.aload_n 0, 1) := by decide +kernel
theorem dX5_playedLast_7 : decode cX5_playedLast 7 = .ok (.iload_n 1, 1) := by decide +kernel
theorem dX5_playedLast_8 : decode cX5_playedLast 8 = .ok (.invokevirtual 142, 3) := by decide +kernel
theorem dX5_playedLast_11 : decode cX5_playedLast 11 = .ok (.iconst 1, 1) := by decide +kernel
theorem dX5_playedLast_12 : decode cX5_playedLast 12 = .ok (.invokevirtual 135, 3) := by decide +kernel
theorem dX5_playedLast_15 : decode cX5_playedLast 15 = .ok (.ifCond .ne 25, 3) := by decide +kernel
theorem dX5_playedLast_18 : decode cX5_playedLast 18 = .ok (.aload_n 0, 1) := by decide +kernel
theorem dX5_playedLast_19 : decode cX5_playedLast 19 = .ok (.aload_n 0, 1) := by decide +kernel
theorem dX5_playedLast_20 : decode cX5_playedLast 20 = .ok (.getfield 16, 3) := by decide +kernel
theorem dX5_playedLast_23 : decode cX5_playedLast 23 = .ok (.iload_n 1, 1) := by decide +kernel
theorem dX5_playedLast_24 : decode cX5_playedLast 24 = .ok (.iaload, 1) := by decide +kernel
theorem dX5_playedLast_25 : decode cX5_playedLast 25 = .ok (.ifCond .ne 7, 3) := by decide +kernel
theorem dX5_playedLast_28 : decode cX5_playedLast 28 = .ok (.iconst 1, 1) := by decide +kernel
theorem dX5_playedLast_29 : decode cX5_playedLast 29 = .ok (.goto 4, 3) := by decide +kernel
theorem dX5_playedLast_32 : decode cX5_playedLast 32 = .ok (.iconst 0, 1) := by decide +kernel
theorem dX5_playedLast_33 : decode cX5_playedLast 33 = .ok (.iconst 2, 1) := by decide +kernel
theorem dX5_playedLast_34 : decode cX5_playedLast 34 = .ok (.invokevirtual 135, 3) := by decide +kernel
theorem dX5_playedLast_37 : decode cX5_playedLast 37 = .ok (.ifCond .eq 7, 3) := by decide +kernel
theorem dX5_playedLast_40 : decode cX5_playedLast 40 = .ok (.iconst 0, 1) := by decide +kernel
theorem dX5_playedLast_41 : decode cX5_playedLast 41 = .ok (.goto 9, 3) := by decide +kernel
theorem dX5_playedLast_44 : decode cX5_playedLast 44 = .ok (.aload_n 0, 1) := by decide +kernel
theorem dX5_playedLast_45 : decode cX5_playedLast 45 = .ok (.getfield 19, 3) := by decide +kernel
theorem dX5_playedLast_48 : decode cX5_playedLast 48 = .ok (.iload_n 1, 1) := by decide +kernel
theorem dX5_playedLast_49 : decode cX5_playedLast 49 = .ok (.iaload, 1) := by decide +kernel
theorem dX5_playedLast_50 : decode cX5_playedLast 50 = .ok (.ireturn, 1) := by decide +kernel
theorem dX5_tagBits_0 : decode cX5_tagBits 0 = .ok (.aload_n 0, 1) := by decide +kernel
theorem dX5_tagBits_1 : decode cX5_tagBits 1 = .ok (.iconst 0, 1) := by decide +kernel
theorem dX5_tagBits_2 : decode cX5_tagBits 2 = .ok (.putfield 91, 3) := by decide +kernel
theorem dX5_tagBits_5 : decode cX5_tagBits 5 = .ok (.aload_n 0, 1) := by decide +kernel
theorem dX5_tagBits_6 : decode cX5_tagBits 6 = .ok (.aload_n 0, 1) := by decide +kernel
theorem dX5_tagBits_7 : decode cX5_tagBits 7 = .ok (.iload_n 1, 1) := by decide +kernel
theorem dX5_tagBits_8 : decode cX5_tagBits 8 = .ok (.invokevirtual 142, 3) := by decide +kernel
theorem dX5_tagBits_11 : decode cX5_tagBits 11 = .ok (.iconst 1, 1) := by decide +kernel
theorem dX5_tagBits_12 : decode cX5_tagBits 12 = .ok (.invokevirtual 135, 3) := by decide +kernel
theorem dX5_tagBits_15 : decode cX5_tagBits 15 = .ok (.ifCond .eq 7, 3) := by decide +kernel
theorem dX5_tagBits_18 : decode cX5_tagBits 18 = .ok (.iconst 0, 1) := by decide +kernel
theorem dX5_tagBits_19 : decode cX5_tagBits 19 = .ok (.goto 9, 3) := by decide +kernel
theorem dX5_tagBits_22 : decode cX5_tagBits 22 = .ok (.aload_n 0, 1) := by decide +kernel
theorem dX5_tagBits_23 : decode cX5_tagBits 23 = .ok (.getfield 22, 3) := by decide +kernel
theorem dX5_tagBits_26 : decode cX5_tagBits 26 = .ok (.iload_n 1, 1) := by decide +kernel
theorem dX5_tagBits_27 : decode cX5_tagBits 27 = .ok (.iaload, 1) := by decide +kernel
theorem dX5_tagBits_28 : decode cX5_tagBits 28 = .ok (.ireturn, 1) := by decide +kernel
theorem dX5_nameLength_0 : decode cX5_nameLength 0 = .ok (.aload_n 0, 1) := by decide +kernel
theorem dX5_nameLength_1 : decode cX5_nameLength 1 = .ok (.iconst 0, 1) := by decide +kernel
theorem dX5_nameLength_2 : decode cX5_nameLength 2 = .ok (.putfield 91, 3) := by decide +kernel
theorem dX5_nameLength_5 : decode cX5_nameLength 5 = .ok (.aload_n 0, 1) := by decide +kernel
theorem dX5_nameLength_6 : decode cX5_nameLength 6 = .ok (.aload_n 0, 1) := by decide +kernel
theorem dX5_nameLength_7 : decode cX5_nameLength 7 = .ok (.iload_n 1, 1) := by decide +kernel
theorem dX5_nameLength_8 : decode cX5_nameLength 8 = .ok (.invokevirtual 150, 3) := by decide +kernel
theorem dX5_nameLength_11 : decode cX5_nameLength 11 = .ok (.iconst 1, 1) := by decide +kernel
theorem dX5_nameLength_12 : decode cX5_nameLength 12 = .ok (.invokevirtual 135, 3) := by decide +kernel
theorem dX5_nameLength_15 : decode cX5_nameLength 15 = .ok (.ifCond .eq 7, 3) := by decide +kernel
theorem dX5_nameLength_18 : decode cX5_nameLength 18 = .ok (.iconst 0, 1) := by decide +kernel
theorem dX5_nameLength_19 : decode cX5_nameLength 19 = .ok (.goto 9, 3) := by decide +kernel
theorem dX5_nameLength_22 : decode cX5_nameLength 22 = .ok (.aload_n 0, 1) := by decide +kernel
theorem dX5_nameLength_23 : decode cX5_nameLength 23 = .ok (.getfield 29, 3) := by decide +kernel
theorem dX5_nameLength_26 : decode cX5_nameLength 26 = .ok (.iload_n 1, 1) := by decide +kernel
theorem dX5_nameLength_27 : decode cX5_nameLength 27 = .ok (.iaload, 1) := by decide +kernel
theorem dX5_nameLength_28 : decode cX5_nameLength 28 = .ok (.ireturn, 1) := by decide +kernel
theorem dX5_nameAt_0 : decode cX5_nameAt 0 = .ok (.aload_n 0, 1) := by decide +kernel
theorem dX5_nameAt_1 : decode cX5_nameAt 1 = .ok (.iconst 0, 1) := by decide +kernel
theorem dX5_nameAt_2 : decode cX5_nameAt 2 = .ok (.putfield 91, 3) := by decide +kernel
theorem dX5_nameAt_5 : decode cX5_nameAt 5 = .ok (.aload_n 0, 1) := by decide +kernel
theorem dX5_nameAt_6 : decode cX5_nameAt 6 = .ok (.aload_n 0, 1) := by decide +kernel
theorem dX5_nameAt_7 : decode cX5_nameAt 7 = .ok (.iload_n 1, 1) := by decide +kernel
theorem dX5_nameAt_8 : decode cX5_nameAt 8 = .ok (.invokevirtual 150, 3) := by decide +kernel
theorem dX5_nameAt_11 : decode cX5_nameAt 11 = .ok (.iconst 1, 1) := by decide +kernel
theorem dX5_nameAt_12 : decode cX5_nameAt 12 = .ok (.invokevirtual 135, 3) := by decide +kernel
theorem dX5_nameAt_15 : decode cX5_nameAt 15 = .ok (.ifCond .ne 32, 3) := by decide +kernel
theorem dX5_nameAt_18 : decode cX5_nameAt 18 = .ok (.aload_n 0, 1) := by decide +kernel
theorem dX5_nameAt_19 : decode cX5_nameAt 19 = .ok (.iload_n 2, 1) := by decide +kernel
theorem dX5_nameAt_20 : decode cX5_nameAt 20 = .ok (.iconst 0, 1) := by decide +kernel
theorem dX5_nameAt_21 : decode cX5_nameAt 21 = .ok (.aload_n 0, 1) := by decide +kernel
theorem dX5_nameAt_22 : decode cX5_nameAt 22 = .ok (.getfield 29, 3) := by decide +kernel
theorem dX5_nameAt_25 : decode cX5_nameAt 25 = .ok (.iload_n 1, 1) := by decide +kernel
theorem dX5_nameAt_26 : decode cX5_nameAt 26 = .ok (.iaload, 1) := by decide +kernel
theorem dX5_nameAt_27 : decode cX5_nameAt 27 = .ok (.iconst 1, 1) := by decide +kernel
theorem dX5_nameAt_28 : decode cX5_nameAt 28 = .ok (.isub, 1) := by decide +kernel
theorem dX5_nameAt_29 : decode cX5_nameAt 29 = .ok (.invokestatic 98, 3) := by decide +kernel
theorem dX5_nameAt_32 : decode cX5_nameAt 32 = .ok (.ifCond .ne 7, 3) := by decide +kernel
theorem dX5_nameAt_35 : decode cX5_nameAt 35 = .ok (.iconst 1, 1) := by decide +kernel
theorem dX5_nameAt_36 : decode cX5_nameAt 36 = .ok (.goto 4, 3) := by decide +kernel
theorem dX5_nameAt_39 : decode cX5_nameAt 39 = .ok (.iconst 0, 1) := by decide +kernel
theorem dX5_nameAt_40 : decode cX5_nameAt 40 = .ok (.iconst 2, 1) := by decide +kernel
theorem dX5_nameAt_41 : decode cX5_nameAt 41 = .ok (.invokevirtual 135, 3) := by decide +kernel
theorem dX5_nameAt_44 : decode cX5_nameAt 44 = .ok (.ifCond .eq 7, 3) := by decide +kernel
theorem dX5_nameAt_47 : decode cX5_nameAt 47 = .ok (.iconst 0, 1) := by decide +kernel
theorem dX5_nameAt_48 : decode cX5_nameAt 48 = .ok (.goto 14, 3) := by decide +kernel
theorem dX5_nameAt_51 : decode cX5_nameAt 51 = .ok (.aload_n 0, 1) := by decide +kernel
theorem dX5_nameAt_52 : decode cX5_nameAt 52 = .ok (.getfield 32, 3) := by decide +kernel
theorem dX5_nameAt_55 : decode cX5_nameAt 55 = .ok (.bipush 6, 2) := by decide +kernel
theorem dX5_nameAt_57 : decode cX5_nameAt 57 = .ok (.iload_n 1, 1) := by decide +kernel
theorem dX5_nameAt_58 : decode cX5_nameAt 58 = .ok (.imul, 1) := by decide +kernel
theorem dX5_nameAt_59 : decode cX5_nameAt 59 = .ok (.iload_n 2, 1) := by decide +kernel
theorem dX5_nameAt_60 : decode cX5_nameAt 60 = .ok (.iadd, 1) := by decide +kernel
theorem dX5_nameAt_61 : decode cX5_nameAt 61 = .ok (.caload, 1) := by decide +kernel
theorem dX5_nameAt_62 : decode cX5_nameAt 62 = .ok (.ireturn, 1) := by decide +kernel
theorem dX5_distance_0 : decode cX5_distance 0 = .ok (.aload_n 0, 1) := by decide +kernel
theorem dX5_distance_1 : decode cX5_distance 1 = .ok (.iconst 0, 1) := by decide +kernel
theorem dX5_distance_2 : decode cX5_distance 2 = .ok (.putfield 91, 3) := by decide +kernel
theorem dX5_distance_5 : decode cX5_distance 5 = .ok (.aload_n 0, 1) := by decide +kernel
theorem dX5_distance_6 : decode cX5_distance 6 = .ok (.aload_n 0, 1) := by decide +kernel
theorem dX5_distance_7 : decode cX5_distance 7 = .ok (.iload_n 1, 1) := by decide +kernel
theorem dX5_distance_8 : decode cX5_distance 8 = .ok (.invokevirtual 150, 3) := by decide +kernel
theorem dX5_distance_11 : decode cX5_distance 11 = .ok (.ifCond .ne 11, 3) := by decide +kernel
theorem dX5_distance_14 : decode cX5_distance 14 = .ok (.aload_n 0, 1) := by decide +kernel
theorem dX5_distance_15 : decode cX5_distance 15 = .ok (.iload_n 2, 1) := by decide +kernel
theorem dX5_distance_16 : decode cX5_distance 16 = .ok (.invokevirtual 150, 3) := by decide +kernel
theorem dX5_distance_19 : decode cX5_distance 19 = .ok (.ifCond .eq 7, 3) := by decide +kernel
theorem dX5_distance_22 : decode cX5_distance 22 = .ok (.iconst 1, 1) := by decide +kernel
theorem dX5_distance_23 : decode cX5_distance 23 = .ok (.goto 4, 3) := by decide +kernel
theorem dX5_distance_26 : decode cX5_distance 26 = .ok (.iconst 0, 1) := by decide +kernel
theorem dX5_distance_27 : decode cX5_distance 27 = .ok (.iconst 1, 1) := by decide +kernel
theorem dX5_distance_28 : decode cX5_distance 28 = .ok (.invokevirtual 135, 3) := by decide +kernel
theorem dX5_distance_31 : decode cX5_distance 31 = .ok (.ifCond .eq 7, 3) := by decide +kernel
theorem dX5_distance_34 : decode cX5_distance 34 = .ok (.iconst 0, 1) := by decide +kernel
theorem dX5_distance_35 : decode cX5_distance 35 = .ok (.goto 9, 3) := by decide +kernel
theorem dX5_distance_38 : decode cX5_distance 38 = .ok (.aload_n 0, 1) := by decide +kernel
theorem dX5_distance_39 : decode cX5_distance 39 = .ok (.iload_n 1, 1) := by decide +kernel
theorem dX5_distance_40 : decode cX5_distance 40 = .ok (.iload_n 2, 1) := by decide +kernel
theorem dX5_distance_41 : decode cX5_distance 41 = .ok (.invokevirtual 164, 3) := by decide +kernel
theorem dX5_distance_44 : decode cX5_distance 44 = .ok (.ireturn, 1) := by decide +kernel
theorem dX5_distanceByTrying_0 : decode cX5_distanceByTrying 0 = .ok (.aload_n 0, 1) := by decide +kernel
theorem dX5_distanceByTrying_1 : decode cX5_distanceByTrying 1 = .ok (.iload_n 1, 1) := by decide +kernel
theorem dX5_distanceByTrying_2 : decode cX5_distanceByTrying 2 = .ok (.iload_n 2, 1) := by decide +kernel
theorem dX5_distanceByTrying_3 : decode cX5_distanceByTrying 3 = .ok (.invokevirtual 192, 3) := by decide +kernel
theorem dX5_distanceByTrying_6 : decode cX5_distanceByTrying 6 = .ok (.ireturn, 1) := by decide +kernel
theorem dX5_nearest_0 : decode cX5_nearest 0 = .ok (.aload_n 0, 1) := by decide +kernel
theorem dX5_nearest_1 : decode cX5_nearest 1 = .ok (.iconst 0, 1) := by decide +kernel
theorem dX5_nearest_2 : decode cX5_nearest 2 = .ok (.putfield 91, 3) := by decide +kernel
theorem dX5_nearest_5 : decode cX5_nearest 5 = .ok (.aload_n 0, 1) := by decide +kernel
theorem dX5_nearest_6 : decode cX5_nearest 6 = .ok (.aload_n 0, 1) := by decide +kernel
theorem dX5_nearest_7 : decode cX5_nearest 7 = .ok (.iload_n 1, 1) := by decide +kernel
theorem dX5_nearest_8 : decode cX5_nearest 8 = .ok (.invokevirtual 150, 3) := by decide +kernel
theorem dX5_nearest_11 : decode cX5_nearest 11 = .ok (.iconst 1, 1) := by decide +kernel
theorem dX5_nearest_12 : decode cX5_nearest 12 = .ok (.invokevirtual 135, 3) := by decide +kernel
theorem dX5_nearest_15 : decode cX5_nearest 15 = .ok (.ifCond .eq 5, 3) := by decide +kernel
theorem dX5_nearest_18 : decode cX5_nearest 18 = .ok (.iconst 0, 1) := by decide +kernel
theorem dX5_nearest_19 : decode cX5_nearest 19 = .ok (.ireturn, 1) := by decide +kernel
theorem dX5_nearest_20 : decode cX5_nearest 20 = .ok (.iconst (-1), 1) := by decide +kernel
theorem dX5_nearest_21 : decode cX5_nearest 21 = .ok (.istore_n 2, 1) := by decide +kernel
theorem dX5_nearest_22 : decode cX5_nearest 22 = .ok (.bipush 99, 2) := by decide +kernel
theorem dX5_nearest_24 : decode cX5_nearest 24 = .ok (.istore_n 3, 1) := by decide +kernel
theorem dX5_nearest_25 : decode cX5_nearest 25 = .ok (.iconst 0, 1) := by decide +kernel
theorem dX5_nearest_26 : decode cX5_nearest 26 = .ok (.istore 4, 2) := by decide +kernel
theorem dX5_nearest_28 : decode cX5_nearest 28 = .ok (.iload 4, 2) := by decide +kernel
theorem dX5_nearest_30 : decode cX5_nearest 30 = .ok (.aload_n 0, 1) := by decide +kernel
theorem dX5_nearest_31 : decode cX5_nearest 31 = .ok (.getfield 102, 3) := by decide +kernel
theorem dX5_nearest_34 : decode cX5_nearest 34 = .ok (.if_icmp .ge 47, 3) := by decide +kernel
theorem dX5_nearest_37 : decode cX5_nearest 37 = .ok (.iload 4, 2) := by decide +kernel
theorem dX5_nearest_39 : decode cX5_nearest 39 = .ok (.iload_n 1, 1) := by decide +kernel
theorem dX5_nearest_40 : decode cX5_nearest 40 = .ok (.if_icmp .eq 35, 3) := by decide +kernel
theorem dX5_nearest_43 : decode cX5_nearest 43 = .ok (.aload_n 0, 1) := by decide +kernel
theorem dX5_nearest_44 : decode cX5_nearest 44 = .ok (.getfield 36, 3) := by decide +kernel
theorem dX5_nearest_47 : decode cX5_nearest 47 = .ok (.iload 4, 2) := by decide +kernel
theorem dX5_nearest_49 : decode cX5_nearest 49 = .ok (.baload, 1) := by decide +kernel
theorem dX5_nearest_50 : decode cX5_nearest 50 = .ok (.ifCond .ne 25, 3) := by decide +kernel
theorem dX5_nearest_53 : decode cX5_nearest 53 = .ok (.aload_n 0, 1) := by decide +kernel
theorem dX5_nearest_54 : decode cX5_nearest 54 = .ok (.iload_n 1, 1) := by decide +kernel
theorem dX5_nearest_55 : decode cX5_nearest 55 = .ok (.iload 4, 2) := by decide +kernel
theorem dX5_nearest_57 : decode cX5_nearest 57 = .ok (.invokevirtual 164, 3) := by decide +kernel
theorem dX5_nearest_60 : decode cX5_nearest 60 = .ok (.iload_n 3, 1) := by decide +kernel
theorem dX5_nearest_61 : decode cX5_nearest 61 = .ok (.if_icmp .ge 14, 3) := by decide +kernel
theorem dX5_nearest_64 : decode cX5_nearest 64 = .ok (.iload 4, 2) := by decide +kernel
theorem dX5_nearest_66 : decode cX5_nearest 66 = .ok (.istore_n 2, 1) := by decide +kernel
theorem dX5_nearest_67 : decode cX5_nearest 67 = .ok (.aload_n 0, 1) := by decide +kernel
theorem dX5_nearest_68 : decode cX5_nearest 68 = .ok (.iload_n 1, 1) := by decide +kernel
theorem dX5_nearest_69 : decode cX5_nearest 69 = .ok (.iload 4, 2) := by decide +kernel
theorem dX5_nearest_71 : decode cX5_nearest 71 = .ok (.invokevirtual 164, 3) := by decide +kernel
theorem dX5_nearest_74 : decode cX5_nearest 74 = .ok (.istore_n 3, 1) := by decide +kernel
theorem dX5_nearest_75 : decode cX5_nearest 75 = .ok (.iinc 4 1, 3) := by decide +kernel
theorem dX5_nearest_78 : decode cX5_nearest 78 = .ok (.goto (-50), 3) := by decide +kernel
theorem dX5_nearest_81 : decode cX5_nearest 81 = .ok (.aload_n 0, 1) := by decide +kernel
theorem dX5_nearest_82 : decode cX5_nearest 82 = .ok (.iload_n 2, 1) := by decide +kernel
theorem dX5_nearest_83 : decode cX5_nearest 83 = .ok (.iconst (-1), 1) := by decide +kernel
theorem dX5_nearest_84 : decode cX5_nearest 84 = .ok (.if_icmp .ne 7, 3) := by decide +kernel
theorem dX5_nearest_87 : decode cX5_nearest 87 = .ok (.iconst 1, 1) := by decide +kernel
theorem dX5_nearest_88 : decode cX5_nearest 88 = .ok (.goto 4, 3) := by decide +kernel
theorem dX5_nearest_91 : decode cX5_nearest 91 = .ok (.iconst 0, 1) := by decide +kernel
theorem dX5_nearest_92 : decode cX5_nearest 92 = .ok (.iconst 2, 1) := by decide +kernel
theorem dX5_nearest_93 : decode cX5_nearest 93 = .ok (.invokevirtual 135, 3) := by decide +kernel
theorem dX5_nearest_96 : decode cX5_nearest 96 = .ok (.ifCond .eq 7, 3) := by decide +kernel
theorem dX5_nearest_99 : decode cX5_nearest 99 = .ok (.iconst 0, 1) := by decide +kernel
theorem dX5_nearest_100 : decode cX5_nearest 100 = .ok (.goto 4, 3) := by decide +kernel
theorem dX5_nearest_103 : decode cX5_nearest 103 = .ok (.iload_n 2, 1) := by decide +kernel
theorem dX5_nearest_104 : decode cX5_nearest 104 = .ok (.ireturn, 1) := by decide +kernel
theorem dX5_sizeOf_0 : decode cX5_sizeOf 0 = .ok (.aload_n 0, 1) := by decide +kernel
theorem dX5_sizeOf_1 : decode cX5_sizeOf 1 = .ok (.iconst 0, 1) := by decide +kernel
theorem dX5_sizeOf_2 : decode cX5_sizeOf 2 = .ok (.putfield 91, 3) := by decide +kernel
theorem dX5_sizeOf_5 : decode cX5_sizeOf 5 = .ok (.aload_n 0, 1) := by decide +kernel
theorem dX5_sizeOf_6 : decode cX5_sizeOf 6 = .ok (.aload_n 0, 1) := by decide +kernel
theorem dX5_sizeOf_7 : decode cX5_sizeOf 7 = .ok (.iload_n 1, 1) := by decide +kernel
theorem dX5_sizeOf_8 : decode cX5_sizeOf 8 = .ok (.invokevirtual 178, 3) := by decide +kernel
theorem dX5_sizeOf_11 : decode cX5_sizeOf 11 = .ok (.iconst 1, 1) := by decide +kernel
theorem dX5_sizeOf_12 : decode cX5_sizeOf 12 = .ok (.invokevirtual 135, 3) := by decide +kernel
theorem dX5_sizeOf_15 : decode cX5_sizeOf 15 = .ok (.ifCond .eq 7, 3) := by decide +kernel
theorem dX5_sizeOf_18 : decode cX5_sizeOf 18 = .ok (.iconst 0, 1) := by decide +kernel
theorem dX5_sizeOf_19 : decode cX5_sizeOf 19 = .ok (.goto 9, 3) := by decide +kernel
theorem dX5_sizeOf_22 : decode cX5_sizeOf 22 = .ok (.aload_n 0, 1) := by decide +kernel
theorem dX5_sizeOf_23 : decode cX5_sizeOf 23 = .ok (.getfield 48, 3) := by decide +kernel
theorem dX5_sizeOf_26 : decode cX5_sizeOf 26 = .ok (.iload_n 1, 1) := by decide +kernel
theorem dX5_sizeOf_27 : decode cX5_sizeOf 27 = .ok (.iaload, 1) := by decide +kernel
theorem dX5_sizeOf_28 : decode cX5_sizeOf 28 = .ok (.ireturn, 1) := by decide +kernel
theorem dX5_holds_0 : decode cX5_holds 0 = .ok (.aload_n 0, 1) := by decide +kernel
theorem dX5_holds_1 : decode cX5_holds 1 = .ok (.iconst 0, 1) := by decide +kernel
theorem dX5_holds_2 : decode cX5_holds 2 = .ok (.putfield 91, 3) := by decide +kernel
theorem dX5_holds_5 : decode cX5_holds 5 = .ok (.aload_n 0, 1) := by decide +kernel
theorem dX5_holds_6 : decode cX5_holds 6 = .ok (.aload_n 0, 1) := by decide +kernel
theorem dX5_holds_7 : decode cX5_holds 7 = .ok (.iload_n 1, 1) := by decide +kernel
theorem dX5_holds_8 : decode cX5_holds 8 = .ok (.invokevirtual 178, 3) := by decide +kernel
theorem dX5_holds_11 : decode cX5_holds 11 = .ok (.ifCond .ne 11, 3) := by decide +kernel
theorem dX5_holds_14 : decode cX5_holds 14 = .ok (.aload_n 0, 1) := by decide +kernel
theorem dX5_holds_15 : decode cX5_holds 15 = .ok (.iload_n 2, 1) := by decide +kernel
theorem dX5_holds_16 : decode cX5_holds 16 = .ok (.invokevirtual 142, 3) := by decide +kernel
theorem dX5_holds_19 : decode cX5_holds 19 = .ok (.ifCond .eq 7, 3) := by decide +kernel
theorem dX5_holds_22 : decode cX5_holds 22 = .ok (.iconst 1, 1) := by decide +kernel
theorem dX5_holds_23 : decode cX5_holds 23 = .ok (.goto 4, 3) := by decide +kernel
theorem dX5_holds_26 : decode cX5_holds 26 = .ok (.iconst 0, 1) := by decide +kernel
theorem dX5_holds_27 : decode cX5_holds 27 = .ok (.iconst 1, 1) := by decide +kernel
theorem dX5_holds_28 : decode cX5_holds 28 = .ok (.invokevirtual 135, 3) := by decide +kernel
theorem dX5_holds_31 : decode cX5_holds 31 = .ok (.ifCond .ne 16, 3) := by decide +kernel
theorem dX5_holds_34 : decode cX5_holds 34 = .ok (.aload_n 0, 1) := by decide +kernel
theorem dX5_holds_35 : decode cX5_holds 35 = .ok (.iload_n 1, 1) := by decide +kernel
theorem dX5_holds_36 : decode cX5_holds 36 = .ok (.iload_n 2, 1) := by decide +kernel
theorem dX5_holds_37 : decode cX5_holds 37 = .ok (.invokevirtual 118, 3) := by decide +kernel
theorem dX5_holds_40 : decode cX5_holds 40 = .ok (.ifCond .eq 7, 3) := by decide +kernel
theorem dX5_holds_43 : decode cX5_holds 43 = .ok (.iconst 1, 1) := by decide +kernel
theorem dX5_holds_44 : decode cX5_holds 44 = .ok (.goto 4, 3) := by decide +kernel
theorem dX5_holds_47 : decode cX5_holds 47 = .ok (.iconst 0, 1) := by decide +kernel
theorem dX5_holds_48 : decode cX5_holds 48 = .ok (.ireturn, 1) := by decide +kernel
theorem dX5_matches_0 : decode cX5_matches 0 = .ok (.aload_n 0, 1) := by decide +kernel
theorem dX5_matches_1 : decode cX5_matches 1 = .ok (.iconst 0, 1) := by decide +kernel
theorem dX5_matches_2 : decode cX5_matches 2 = .ok (.putfield 91, 3) := by decide +kernel
theorem dX5_matches_5 : decode cX5_matches 5 = .ok (.aload_n 0, 1) := by decide +kernel
theorem dX5_matches_6 : decode cX5_matches 6 = .ok (.aload_n 0, 1) := by decide +kernel
theorem dX5_matches_7 : decode cX5_matches 7 = .ok (.iload_n 1, 1) := by decide +kernel
theorem dX5_matches_8 : decode cX5_matches 8 = .ok (.invokevirtual 175, 3) := by decide +kernel
theorem dX5_matches_11 : decode cX5_matches 11 = .ok (.iconst 1, 1) := by decide +kernel
theorem dX5_matches_12 : decode cX5_matches 12 = .ok (.invokevirtual 135, 3) := by decide +kernel
theorem dX5_matches_15 : decode cX5_matches 15 = .ok (.ifCond .eq 5, 3) := by decide +kernel
theorem dX5_matches_18 : decode cX5_matches 18 = .ok (.iconst 0, 1) := by decide +kernel
theorem dX5_matches_19 : decode cX5_matches 19 = .ok (.ireturn, 1) := by decide +kernel
theorem dX5_matches_20 : decode cX5_matches 20 = .ok (.iconst 0, 1) := by decide +kernel
theorem dX5_matches_21 : decode cX5_matches 21 = .ok (.istore_n 2, 1) := by decide +kernel
theorem dX5_matches_22 : decode cX5_matches 22 = .ok (.iconst 0, 1) := by decide +kernel
theorem dX5_matches_23 : decode cX5_matches 23 = .ok (.istore_n 3, 1) := by decide +kernel
theorem dX5_matches_24 : decode cX5_matches 24 = .ok (.iload_n 3, 1) := by decide +kernel
theorem dX5_matches_25 : decode cX5_matches 25 = .ok (.aload_n 0, 1) := by decide +kernel
theorem dX5_matches_26 : decode cX5_matches 26 = .ok (.getfield 95, 3) := by decide +kernel
theorem dX5_matches_29 : decode cX5_matches 29 = .ok (.if_icmp .ge 26, 3) := by decide +kernel
theorem dX5_matches_32 : decode cX5_matches 32 = .ok (.iload_n 2, 1) := by decide +kernel
theorem dX5_matches_33 : decode cX5_matches 33 = .ok (.aload_n 0, 1) := by decide +kernel
theorem dX5_matches_34 : decode cX5_matches 34 = .ok (.iload_n 1, 1) := by decide +kernel
theorem dX5_matches_35 : decode cX5_matches 35 = .ok (.iload_n 3, 1) := by decide +kernel
theorem dX5_matches_36 : decode cX5_matches 36 = .ok (.invokevirtual 122, 3) := by decide +kernel
theorem dX5_matches_39 : decode cX5_matches 39 = .ok (.ifCond .eq 7, 3) := by decide +kernel
theorem dX5_matches_42 : decode cX5_matches 42 = .ok (.iconst 1, 1) := by decide +kernel
theorem dX5_matches_43 : decode cX5_matches 43 = .ok (.goto 4, 3) := by decide +kernel
theorem dX5_matches_46 : decode cX5_matches 46 = .ok (.iconst 0, 1) := by decide +kernel
theorem dX5_matches_47 : decode cX5_matches 47 = .ok (.iadd, 1) := by decide +kernel
theorem dX5_matches_48 : decode cX5_matches 48 = .ok (.istore_n 2, 1) := by decide +kernel
theorem dX5_matches_49 : decode cX5_matches 49 = .ok (.iinc 3 1, 3) := by decide +kernel
theorem dX5_matches_52 : decode cX5_matches 52 = .ok (.goto (-28), 3) := by decide +kernel
theorem dX5_matches_55 : decode cX5_matches 55 = .ok (.iload_n 2, 1) := by decide +kernel
theorem dX5_matches_56 : decode cX5_matches 56 = .ok (.ireturn, 1) := by decide +kernel
theorem dX5_size_0 : decode cX5_size 0 = .ok (.aload_n 0, 1) := by decide +kernel
theorem dX5_size_1 : decode cX5_size 1 = .ok (.iconst 0, 1) := by decide +kernel
theorem dX5_size_2 : decode cX5_size 2 = .ok (.putfield 91, 3) := by decide +kernel
theorem dX5_size_5 : decode cX5_size 5 = .ok (.aload_n 0, 1) := by decide +kernel
theorem dX5_size_6 : decode cX5_size 6 = .ok (.aload_n 0, 1) := by decide +kernel
theorem dX5_size_7 : decode cX5_size 7 = .ok (.iload_n 1, 1) := by decide +kernel
theorem dX5_size_8 : decode cX5_size 8 = .ok (.invokevirtual 175, 3) := by decide +kernel
theorem dX5_size_11 : decode cX5_size 11 = .ok (.iconst 1, 1) := by decide +kernel
theorem dX5_size_12 : decode cX5_size 12 = .ok (.invokevirtual 135, 3) := by decide +kernel
theorem dX5_size_15 : decode cX5_size 15 = .ok (.ifCond .eq 7, 3) := by decide +kernel
theorem dX5_size_18 : decode cX5_size 18 = .ok (.iconst 0, 1) := by decide +kernel
theorem dX5_size_19 : decode cX5_size 19 = .ok (.goto 9, 3) := by decide +kernel
theorem dX5_size_22 : decode cX5_size 22 = .ok (.aload_n 0, 1) := by decide +kernel
theorem dX5_size_23 : decode cX5_size 23 = .ok (.getfield 69, 3) := by decide +kernel
theorem dX5_size_26 : decode cX5_size 26 = .ok (.iload_n 1, 1) := by decide +kernel
theorem dX5_size_27 : decode cX5_size 27 = .ok (.iaload, 1) := by decide +kernel
theorem dX5_size_28 : decode cX5_size 28 = .ok (.ireturn, 1) := by decide +kernel
theorem dX5_trackAt_0 : decode cX5_trackAt 0 = .ok (.aload_n 0, 1) := by decide +kernel
theorem dX5_trackAt_1 : decode cX5_trackAt 1 = .ok (.iconst 0, 1) := by decide +kernel
theorem dX5_trackAt_2 : decode cX5_trackAt 2 = .ok (.putfield 91, 3) := by decide +kernel
theorem dX5_trackAt_5 : decode cX5_trackAt 5 = .ok (.aload_n 0, 1) := by decide +kernel
theorem dX5_trackAt_6 : decode cX5_trackAt 6 = .ok (.aload_n 0, 1) := by decide +kernel
theorem dX5_trackAt_7 : decode cX5_trackAt 7 = .ok (.iload_n 1, 1) := by decide +kernel
theorem dX5_trackAt_8 : decode cX5_trackAt 8 = .ok (.invokevirtual 175, 3) := by decide +kernel
theorem dX5_trackAt_11 : decode cX5_trackAt 11 = .ok (.iconst 1, 1) := by decide +kernel
theorem dX5_trackAt_12 : decode cX5_trackAt 12 = .ok (.invokevirtual 135, 3) := by decide +kernel
theorem dX5_trackAt_15 : decode cX5_trackAt 15 = .ok (.ifCond .ne 32, 3) := by decide +kernel
theorem dX5_trackAt_18 : decode cX5_trackAt 18 = .ok (.aload_n 0, 1) := by decide +kernel
theorem dX5_trackAt_19 : decode cX5_trackAt 19 = .ok (.iload_n 2, 1) := by decide +kernel
theorem dX5_trackAt_20 : decode cX5_trackAt 20 = .ok (.iconst 0, 1) := by decide +kernel
theorem dX5_trackAt_21 : decode cX5_trackAt 21 = .ok (.aload_n 0, 1) := by decide +kernel
theorem dX5_trackAt_22 : decode cX5_trackAt 22 = .ok (.getfield 69, 3) := by decide +kernel
theorem dX5_trackAt_25 : decode cX5_trackAt 25 = .ok (.iload_n 1, 1) := by decide +kernel
theorem dX5_trackAt_26 : decode cX5_trackAt 26 = .ok (.iaload, 1) := by decide +kernel
theorem dX5_trackAt_27 : decode cX5_trackAt 27 = .ok (.iconst 1, 1) := by decide +kernel
theorem dX5_trackAt_28 : decode cX5_trackAt 28 = .ok (.isub, 1) := by decide +kernel
theorem dX5_trackAt_29 : decode cX5_trackAt 29 = .ok (.invokestatic 98, 3) := by decide +kernel
theorem dX5_trackAt_32 : decode cX5_trackAt 32 = .ok (.ifCond .ne 7, 3) := by decide +kernel
theorem dX5_trackAt_35 : decode cX5_trackAt 35 = .ok (.iconst 1, 1) := by decide +kernel
theorem dX5_trackAt_36 : decode cX5_trackAt 36 = .ok (.goto 4, 3) := by decide +kernel
theorem dX5_trackAt_39 : decode cX5_trackAt 39 = .ok (.iconst 0, 1) := by decide +kernel
theorem dX5_trackAt_40 : decode cX5_trackAt 40 = .ok (.iconst 2, 1) := by decide +kernel
theorem dX5_trackAt_41 : decode cX5_trackAt 41 = .ok (.invokevirtual 135, 3) := by decide +kernel
theorem dX5_trackAt_44 : decode cX5_trackAt 44 = .ok (.ifCond .eq 7, 3) := by decide +kernel
theorem dX5_trackAt_47 : decode cX5_trackAt 47 = .ok (.iconst 0, 1) := by decide +kernel
theorem dX5_trackAt_48 : decode cX5_trackAt 48 = .ok (.goto 14, 3) := by decide +kernel
theorem dX5_trackAt_51 : decode cX5_trackAt 51 = .ok (.aload_n 0, 1) := by decide +kernel
theorem dX5_trackAt_52 : decode cX5_trackAt 52 = .ok (.getfield 66, 3) := by decide +kernel
theorem dX5_trackAt_55 : decode cX5_trackAt 55 = .ok (.bipush 24, 2) := by decide +kernel
theorem dX5_trackAt_57 : decode cX5_trackAt 57 = .ok (.iload_n 1, 1) := by decide +kernel
theorem dX5_trackAt_58 : decode cX5_trackAt 58 = .ok (.imul, 1) := by decide +kernel
theorem dX5_trackAt_59 : decode cX5_trackAt 59 = .ok (.iload_n 2, 1) := by decide +kernel
theorem dX5_trackAt_60 : decode cX5_trackAt 60 = .ok (.iadd, 1) := by decide +kernel
theorem dX5_trackAt_61 : decode cX5_trackAt 61 = .ok (.iaload, 1) := by decide +kernel
theorem dX5_trackAt_62 : decode cX5_trackAt 62 = .ok (.ireturn, 1) := by decide +kernel
theorem dX5_contains_0 : decode cX5_contains 0 = .ok (.aload_n 0, 1) := by decide +kernel
theorem dX5_contains_1 : decode cX5_contains 1 = .ok (.iconst 0, 1) := by decide +kernel
theorem dX5_contains_2 : decode cX5_contains 2 = .ok (.putfield 91, 3) := by decide +kernel
theorem dX5_contains_5 : decode cX5_contains 5 = .ok (.aload_n 0, 1) := by decide +kernel
theorem dX5_contains_6 : decode cX5_contains 6 = .ok (.aload_n 0, 1) := by decide +kernel
theorem dX5_contains_7 : decode cX5_contains 7 = .ok (.iload_n 1, 1) := by decide +kernel
theorem dX5_contains_8 : decode cX5_contains 8 = .ok (.invokevirtual 175, 3) := by decide +kernel
theorem dX5_contains_11 : decode cX5_contains 11 = .ok (.ifCond .ne 11, 3) := by decide +kernel
theorem dX5_contains_14 : decode cX5_contains 14 = .ok (.aload_n 0, 1) := by decide +kernel
theorem dX5_contains_15 : decode cX5_contains 15 = .ok (.iload_n 2, 1) := by decide +kernel
theorem dX5_contains_16 : decode cX5_contains 16 = .ok (.invokevirtual 142, 3) := by decide +kernel
theorem dX5_contains_19 : decode cX5_contains 19 = .ok (.ifCond .eq 7, 3) := by decide +kernel
theorem dX5_contains_22 : decode cX5_contains 22 = .ok (.iconst 1, 1) := by decide +kernel
theorem dX5_contains_23 : decode cX5_contains 23 = .ok (.goto 4, 3) := by decide +kernel
theorem dX5_contains_26 : decode cX5_contains 26 = .ok (.iconst 0, 1) := by decide +kernel
theorem dX5_contains_27 : decode cX5_contains 27 = .ok (.iconst 1, 1) := by decide +kernel
theorem dX5_contains_28 : decode cX5_contains 28 = .ok (.invokevirtual 135, 3) := by decide +kernel
theorem dX5_contains_31 : decode cX5_contains 31 = .ok (.ifCond .ne 21, 3) := by decide +kernel
theorem dX5_contains_34 : decode cX5_contains 34 = .ok (.aload_n 0, 1) := by decide +kernel
theorem dX5_contains_35 : decode cX5_contains 35 = .ok (.getfield 60, 3) := by decide +kernel
theorem dX5_contains_38 : decode cX5_contains 38 = .ok (.iload_n 1, 1) := by decide +kernel
theorem dX5_contains_39 : decode cX5_contains 39 = .ok (.iaload, 1) := by decide +kernel
theorem dX5_contains_40 : decode cX5_contains 40 = .ok (.iload_n 2, 1) := by decide +kernel
theorem dX5_contains_41 : decode cX5_contains 41 = .ok (.ishr, 1) := by decide +kernel
theorem dX5_contains_42 : decode cX5_contains 42 = .ok (.iconst 1, 1) := by decide +kernel
theorem dX5_contains_43 : decode cX5_contains 43 = .ok (.iand, 1) := by decide +kernel
theorem dX5_contains_44 : decode cX5_contains 44 = .ok (.iconst 1, 1) := by decide +kernel
theorem dX5_contains_45 : decode cX5_contains 45 = .ok (.if_icmp .ne 7, 3) := by decide +kernel
theorem dX5_contains_48 : decode cX5_contains 48 = .ok (.iconst 1, 1) := by decide +kernel
theorem dX5_contains_49 : decode cX5_contains 49 = .ok (.goto 4, 3) := by decide +kernel
theorem dX5_contains_52 : decode cX5_contains 52 = .ok (.iconst 0, 1) := by decide +kernel
theorem dX5_contains_53 : decode cX5_contains 53 = .ok (.ireturn, 1) := by decide +kernel
theorem dX5_containsByRounds_0 : decode cX5_containsByRounds 0 = .ok (.aload_n 0, 1) := by decide +kernel
theorem dX5_containsByRounds_1 : decode cX5_containsByRounds 1 = .ok (.iload_n 1, 1) := by decide +kernel
theorem dX5_containsByRounds_2 : decode cX5_containsByRounds 2 = .ok (.iload_n 2, 1) := by decide +kernel
theorem dX5_containsByRounds_3 : decode cX5_containsByRounds 3 = .ok (.invokevirtual 195, 3) := by decide +kernel
theorem dX5_containsByRounds_6 : decode cX5_containsByRounds 6 = .ok (.ireturn, 1) := by decide +kernel
theorem dX5_secondsIn_0 : decode cX5_secondsIn 0 = .ok (.iconst 0, 1) := by decide +kernel
theorem dX5_secondsIn_1 : decode cX5_secondsIn 1 = .ok (.istore_n 2, 1) := by decide +kernel
theorem dX5_secondsIn_2 : decode cX5_secondsIn 2 = .ok (.iconst 0, 1) := by decide +kernel
theorem dX5_secondsIn_3 : decode cX5_secondsIn 3 = .ok (.istore_n 3, 1) := by decide +kernel
theorem dX5_secondsIn_4 : decode cX5_secondsIn 4 = .ok (.iload_n 3, 1) := by decide +kernel
theorem dX5_secondsIn_5 : decode cX5_secondsIn 5 = .ok (.aload_n 0, 1) := by decide +kernel
theorem dX5_secondsIn_6 : decode cX5_secondsIn 6 = .ok (.getfield 69, 3) := by decide +kernel
theorem dX5_secondsIn_9 : decode cX5_secondsIn 9 = .ok (.iload_n 1, 1) := by decide +kernel
theorem dX5_secondsIn_10 : decode cX5_secondsIn 10 = .ok (.iaload, 1) := by decide +kernel
theorem dX5_secondsIn_11 : decode cX5_secondsIn 11 = .ok (.if_icmp .ge 28, 3) := by decide +kernel
theorem dX5_secondsIn_14 : decode cX5_secondsIn 14 = .ok (.iload_n 2, 1) := by decide +kernel
theorem dX5_secondsIn_15 : decode cX5_secondsIn 15 = .ok (.aload_n 0, 1) := by decide +kernel
theorem dX5_secondsIn_16 : decode cX5_secondsIn 16 = .ok (.getfield 7, 3) := by decide +kernel
theorem dX5_secondsIn_19 : decode cX5_secondsIn 19 = .ok (.aload_n 0, 1) := by decide +kernel
theorem dX5_secondsIn_20 : decode cX5_secondsIn 20 = .ok (.getfield 66, 3) := by decide +kernel
theorem dX5_secondsIn_23 : decode cX5_secondsIn 23 = .ok (.bipush 24, 2) := by decide +kernel
theorem dX5_secondsIn_25 : decode cX5_secondsIn 25 = .ok (.iload_n 1, 1) := by decide +kernel
theorem dX5_secondsIn_26 : decode cX5_secondsIn 26 = .ok (.imul, 1) := by decide +kernel
theorem dX5_secondsIn_27 : decode cX5_secondsIn 27 = .ok (.iload_n 3, 1) := by decide +kernel
theorem dX5_secondsIn_28 : decode cX5_secondsIn 28 = .ok (.iadd, 1) := by decide +kernel
theorem dX5_secondsIn_29 : decode cX5_secondsIn 29 = .ok (.iaload, 1) := by decide +kernel
theorem dX5_secondsIn_30 : decode cX5_secondsIn 30 = .ok (.iaload, 1) := by decide +kernel
theorem dX5_secondsIn_31 : decode cX5_secondsIn 31 = .ok (.iadd, 1) := by decide +kernel
theorem dX5_secondsIn_32 : decode cX5_secondsIn 32 = .ok (.istore_n 2, 1) := by decide +kernel
theorem dX5_secondsIn_33 : decode cX5_secondsIn 33 = .ok (.iinc 3 1, 3) := by decide +kernel
theorem dX5_secondsIn_36 : decode cX5_secondsIn 36 = .ok (.goto (-32), 3) := by decide +kernel
theorem dX5_secondsIn_39 : decode cX5_secondsIn 39 = .ok (.iload_n 2, 1) := by decide +kernel
theorem dX5_secondsIn_40 : decode cX5_secondsIn 40 = .ok (.ireturn, 1) := by decide +kernel
theorem dX5_secondsOf_0 : decode cX5_secondsOf 0 = .ok (.aload_n 0, 1) := by decide +kernel
theorem dX5_secondsOf_1 : decode cX5_secondsOf 1 = .ok (.iconst 0, 1) := by decide +kernel
theorem dX5_secondsOf_2 : decode cX5_secondsOf 2 = .ok (.putfield 91, 3) := by decide +kernel
theorem dX5_secondsOf_5 : decode cX5_secondsOf 5 = .ok (.aload_n 0, 1) := by decide +kernel
theorem dX5_secondsOf_6 : decode cX5_secondsOf 6 = .ok (.aload_n 0, 1) := by decide +kernel
theorem dX5_secondsOf_7 : decode cX5_secondsOf 7 = .ok (.iload_n 1, 1) := by decide +kernel
theorem dX5_secondsOf_8 : decode cX5_secondsOf 8 = .ok (.invokevirtual 175, 3) := by decide +kernel
theorem dX5_secondsOf_11 : decode cX5_secondsOf 11 = .ok (.iconst 1, 1) := by decide +kernel
theorem dX5_secondsOf_12 : decode cX5_secondsOf 12 = .ok (.invokevirtual 135, 3) := by decide +kernel
theorem dX5_secondsOf_15 : decode cX5_secondsOf 15 = .ok (.ifCond .eq 7, 3) := by decide +kernel
theorem dX5_secondsOf_18 : decode cX5_secondsOf 18 = .ok (.iconst 0, 1) := by decide +kernel
theorem dX5_secondsOf_19 : decode cX5_secondsOf 19 = .ok (.goto 8, 3) := by decide +kernel
theorem dX5_secondsOf_22 : decode cX5_secondsOf 22 = .ok (.aload_n 0, 1) := by decide +kernel
theorem dX5_secondsOf_23 : decode cX5_secondsOf 23 = .ok (.iload_n 1, 1) := by decide +kernel
theorem dX5_secondsOf_24 : decode cX5_secondsOf 24 = .ok (.invokevirtual 198, 3) := by decide +kernel
theorem dX5_secondsOf_27 : decode cX5_secondsOf 27 = .ok (.ireturn, 1) := by decide +kernel
theorem dX5_common_0 : decode cX5_common 0 = .ok (.aload_n 0, 1) := by decide +kernel
theorem dX5_common_1 : decode cX5_common 1 = .ok (.iconst 0, 1) := by decide +kernel
theorem dX5_common_2 : decode cX5_common 2 = .ok (.putfield 91, 3) := by decide +kernel
theorem dX5_common_5 : decode cX5_common 5 = .ok (.aload_n 0, 1) := by decide +kernel
theorem dX5_common_6 : decode cX5_common 6 = .ok (.aload_n 0, 1) := by decide +kernel
theorem dX5_common_7 : decode cX5_common 7 = .ok (.iload_n 1, 1) := by decide +kernel
theorem dX5_common_8 : decode cX5_common 8 = .ok (.invokevirtual 175, 3) := by decide +kernel
theorem dX5_common_11 : decode cX5_common 11 = .ok (.ifCond .ne 11, 3) := by decide +kernel
theorem dX5_common_14 : decode cX5_common 14 = .ok (.aload_n 0, 1) := by decide +kernel
theorem dX5_common_15 : decode cX5_common 15 = .ok (.iload_n 2, 1) := by decide +kernel
theorem dX5_common_16 : decode cX5_common 16 = .ok (.invokevirtual 175, 3) := by decide +kernel
theorem dX5_common_19 : decode cX5_common 19 = .ok (.ifCond .eq 7, 3) := by decide +kernel
theorem dX5_common_22 : decode cX5_common 22 = .ok (.iconst 1, 1) := by decide +kernel
theorem dX5_common_23 : decode cX5_common 23 = .ok (.goto 4, 3) := by decide +kernel
theorem dX5_common_26 : decode cX5_common 26 = .ok (.iconst 0, 1) := by decide +kernel
theorem dX5_common_27 : decode cX5_common 27 = .ok (.iconst 1, 1) := by decide +kernel
theorem dX5_common_28 : decode cX5_common 28 = .ok (.invokevirtual 135, 3) := by decide +kernel
theorem dX5_common_31 : decode cX5_common 31 = .ok (.ifCond .eq 7, 3) := by decide +kernel
theorem dX5_common_34 : decode cX5_common 34 = .ok (.iconst 0, 1) := by decide +kernel
theorem dX5_common_35 : decode cX5_common 35 = .ok (.goto 19, 3) := by decide +kernel
theorem dX5_common_38 : decode cX5_common 38 = .ok (.aload_n 0, 1) := by decide +kernel
theorem dX5_common_39 : decode cX5_common 39 = .ok (.getfield 60, 3) := by decide +kernel
theorem dX5_common_42 : decode cX5_common 42 = .ok (.iload_n 1, 1) := by decide +kernel
theorem dX5_common_43 : decode cX5_common 43 = .ok (.iaload, 1) := by decide +kernel
theorem dX5_common_44 : decode cX5_common 44 = .ok (.aload_n 0, 1) := by decide +kernel
theorem dX5_common_45 : decode cX5_common 45 = .ok (.getfield 60, 3) := by decide +kernel
theorem dX5_common_48 : decode cX5_common 48 = .ok (.iload_n 2, 1) := by decide +kernel
theorem dX5_common_49 : decode cX5_common 49 = .ok (.iaload, 1) := by decide +kernel
theorem dX5_common_50 : decode cX5_common 50 = .ok (.iand, 1) := by decide +kernel
theorem dX5_common_51 : decode cX5_common 51 = .ok (.invokestatic 156, 3) := by decide +kernel
theorem dX5_common_54 : decode cX5_common 54 = .ok (.ireturn, 1) := by decide +kernel
theorem dX5_dependsOn_0 : decode cX5_dependsOn 0 = .ok (.aload_n 0, 1) := by decide +kernel
theorem dX5_dependsOn_1 : decode cX5_dependsOn 1 = .ok (.iconst 0, 1) := by decide +kernel
theorem dX5_dependsOn_2 : decode cX5_dependsOn 2 = .ok (.putfield 91, 3) := by decide +kernel
theorem dX5_dependsOn_5 : decode cX5_dependsOn 5 = .ok (.aload_n 0, 1) := by decide +kernel
theorem dX5_dependsOn_6 : decode cX5_dependsOn 6 = .ok (.aload_n 0, 1) := by decide +kernel
theorem dX5_dependsOn_7 : decode cX5_dependsOn 7 = .ok (.iload_n 1, 1) := by decide +kernel
theorem dX5_dependsOn_8 : decode cX5_dependsOn 8 = .ok (.invokevirtual 175, 3) := by decide +kernel
theorem dX5_dependsOn_11 : decode cX5_dependsOn 11 = .ok (.ifCond .ne 11, 3) := by decide +kernel
theorem dX5_dependsOn_14 : decode cX5_dependsOn 14 = .ok (.aload_n 0, 1) := by decide +kernel
theorem dX5_dependsOn_15 : decode cX5_dependsOn 15 = .ok (.iload_n 2, 1) := by decide +kernel
theorem dX5_dependsOn_16 : decode cX5_dependsOn 16 = .ok (.invokevirtual 175, 3) := by decide +kernel
theorem dX5_dependsOn_19 : decode cX5_dependsOn 19 = .ok (.ifCond .eq 7, 3) := by decide +kernel
theorem dX5_dependsOn_22 : decode cX5_dependsOn 22 = .ok (.iconst 1, 1) := by decide +kernel
theorem dX5_dependsOn_23 : decode cX5_dependsOn 23 = .ok (.goto 4, 3) := by decide +kernel
theorem dX5_dependsOn_26 : decode cX5_dependsOn 26 = .ok (.iconst 0, 1) := by decide +kernel
theorem dX5_dependsOn_27 : decode cX5_dependsOn 27 = .ok (.iconst 1, 1) := by decide +kernel
theorem dX5_dependsOn_28 : decode cX5_dependsOn 28 = .ok (.invokevirtual 135, 3) := by decide +kernel
theorem dX5_dependsOn_31 : decode cX5_dependsOn 31 = .ok (.ifCond .ne 25, 3) := by decide +kernel
theorem dX5_dependsOn_34 : decode cX5_dependsOn 34 = .ok (.aload_n 0, 1) := by decide +kernel
theorem dX5_dependsOn_35 : decode cX5_dependsOn 35 = .ok (.aload_n 0, 1) := by decide +kernel
theorem dX5_dependsOn_36 : decode cX5_dependsOn 36 = .ok (.getfield 51, 3) := by decide +kernel
theorem dX5_dependsOn_39 : decode cX5_dependsOn 39 = .ok (.iload_n 1, 1) := by decide +kernel
theorem dX5_dependsOn_40 : decode cX5_dependsOn 40 = .ok (.iaload, 1) := by decide +kernel
theorem dX5_dependsOn_41 : decode cX5_dependsOn 41 = .ok (.invokevirtual 189, 3) := by decide +kernel
theorem dX5_dependsOn_44 : decode cX5_dependsOn 44 = .ok (.iload_n 2, 1) := by decide +kernel
theorem dX5_dependsOn_45 : decode cX5_dependsOn 45 = .ok (.ishr, 1) := by decide +kernel
theorem dX5_dependsOn_46 : decode cX5_dependsOn 46 = .ok (.iconst 1, 1) := by decide +kernel
theorem dX5_dependsOn_47 : decode cX5_dependsOn 47 = .ok (.iand, 1) := by decide +kernel
theorem dX5_dependsOn_48 : decode cX5_dependsOn 48 = .ok (.iconst 1, 1) := by decide +kernel
theorem dX5_dependsOn_49 : decode cX5_dependsOn 49 = .ok (.if_icmp .ne 7, 3) := by decide +kernel
theorem dX5_dependsOn_52 : decode cX5_dependsOn 52 = .ok (.iconst 1, 1) := by decide +kernel
theorem dX5_dependsOn_53 : decode cX5_dependsOn 53 = .ok (.goto 4, 3) := by decide +kernel
theorem dX5_dependsOn_56 : decode cX5_dependsOn 56 = .ok (.iconst 0, 1) := by decide +kernel
theorem dX5_dependsOn_57 : decode cX5_dependsOn 57 = .ok (.ireturn, 1) := by decide +kernel
theorem dX5_touched_0 : decode cX5_touched 0 = .ok (.aload_n 0, 1) := by decide +kernel
theorem dX5_touched_1 : decode cX5_touched 1 = .ok (.iconst 0, 1) := by decide +kernel
theorem dX5_touched_2 : decode cX5_touched 2 = .ok (.putfield 91, 3) := by decide +kernel
theorem dX5_touched_5 : decode cX5_touched 5 = .ok (.aload_n 0, 1) := by decide +kernel
theorem dX5_touched_6 : decode cX5_touched 6 = .ok (.getfield 132, 3) := by decide +kernel
theorem dX5_touched_9 : decode cX5_touched 9 = .ok (.ireturn, 1) := by decide +kernel
theorem dX5_mixes_0 : decode cX5_mixes 0 = .ok (.aload_n 0, 1) := by decide +kernel
theorem dX5_mixes_1 : decode cX5_mixes 1 = .ok (.iconst 0, 1) := by decide +kernel
theorem dX5_mixes_2 : decode cX5_mixes 2 = .ok (.putfield 91, 3) := by decide +kernel
theorem dX5_mixes_5 : decode cX5_mixes 5 = .ok (.aload_n 0, 1) := by decide +kernel
theorem dX5_mixes_6 : decode cX5_mixes 6 = .ok (.aload_n 0, 1) := by decide +kernel
theorem dX5_mixes_7 : decode cX5_mixes 7 = .ok (.iload_n 1, 1) := by decide +kernel
theorem dX5_mixes_8 : decode cX5_mixes 8 = .ok (.invokevirtual 175, 3) := by decide +kernel
theorem dX5_mixes_11 : decode cX5_mixes 11 = .ok (.iconst 1, 1) := by decide +kernel
theorem dX5_mixes_12 : decode cX5_mixes 12 = .ok (.invokevirtual 135, 3) := by decide +kernel
theorem dX5_mixes_15 : decode cX5_mixes 15 = .ok (.ifCond .eq 5, 3) := by decide +kernel
theorem dX5_mixes_18 : decode cX5_mixes 18 = .ok (.iconst 0, 1) := by decide +kernel
theorem dX5_mixes_19 : decode cX5_mixes 19 = .ok (.ireturn, 1) := by decide +kernel
theorem dX5_mixes_20 : decode cX5_mixes 20 = .ok (.lconst 1, 1) := by decide +kernel
theorem dX5_mixes_21 : decode cX5_mixes 21 = .ok (.lstore_n 2, 1) := by decide +kernel
theorem dX5_mixes_22 : decode cX5_mixes 22 = .ok (.iconst 0, 1) := by decide +kernel
theorem dX5_mixes_23 : decode cX5_mixes 23 = .ok (.istore 4, 2) := by decide +kernel
theorem dX5_mixes_25 : decode cX5_mixes 25 = .ok (.iload 4, 2) := by decide +kernel
theorem dX5_mixes_27 : decode cX5_mixes 27 = .ok (.aload_n 0, 1) := by decide +kernel
theorem dX5_mixes_28 : decode cX5_mixes 28 = .ok (.getfield 69, 3) := by decide +kernel
theorem dX5_mixes_31 : decode cX5_mixes 31 = .ok (.iload_n 1, 1) := by decide +kernel
theorem dX5_mixes_32 : decode cX5_mixes 32 = .ok (.iaload, 1) := by decide +kernel
theorem dX5_mixes_33 : decode cX5_mixes 33 = .ok (.if_icmp .ge 40, 3) := by decide +kernel
theorem dX5_mixes_36 : decode cX5_mixes 36 = .ok (.lload_n 2, 1) := by decide +kernel
theorem dX5_mixes_37 : decode cX5_mixes 37 = .ok (.ldc2_w 201, 3) := by decide +kernel
theorem dX5_mixes_40 : decode cX5_mixes 40 = .ok (.lcmp, 1) := by decide +kernel
theorem dX5_mixes_41 : decode cX5_mixes 41 = .ok (.ifCond .gt 32, 3) := by decide +kernel
theorem dX5_mixes_44 : decode cX5_mixes 44 = .ok (.lload_n 2, 1) := by decide +kernel
theorem dX5_mixes_45 : decode cX5_mixes 45 = .ok (.aload_n 0, 1) := by decide +kernel
theorem dX5_mixes_46 : decode cX5_mixes 46 = .ok (.getfield 16, 3) := by decide +kernel
theorem dX5_mixes_49 : decode cX5_mixes 49 = .ok (.aload_n 0, 1) := by decide +kernel
theorem dX5_mixes_50 : decode cX5_mixes 50 = .ok (.getfield 66, 3) := by decide +kernel
theorem dX5_mixes_53 : decode cX5_mixes 53 = .ok (.bipush 24, 2) := by decide +kernel
theorem dX5_mixes_55 : decode cX5_mixes 55 = .ok (.iload_n 1, 1) := by decide +kernel
theorem dX5_mixes_56 : decode cX5_mixes 56 = .ok (.imul, 1) := by decide +kernel
theorem dX5_mixes_57 : decode cX5_mixes 57 = .ok (.iload 4, 2) := by decide +kernel
theorem dX5_mixes_59 : decode cX5_mixes 59 = .ok (.iadd, 1) := by decide +kernel
theorem dX5_mixes_60 : decode cX5_mixes 60 = .ok (.iaload, 1) := by decide +kernel
theorem dX5_mixes_61 : decode cX5_mixes 61 = .ok (.iaload, 1) := by decide +kernel
theorem dX5_mixes_62 : decode cX5_mixes 62 = .ok (.iconst 1, 1) := by decide +kernel
theorem dX5_mixes_63 : decode cX5_mixes 63 = .ok (.iadd, 1) := by decide +kernel
theorem dX5_mixes_64 : decode cX5_mixes 64 = .ok (.i2l, 1) := by decide +kernel
theorem dX5_mixes_65 : decode cX5_mixes 65 = .ok (.lmul, 1) := by decide +kernel
theorem dX5_mixes_66 : decode cX5_mixes 66 = .ok (.lstore_n 2, 1) := by decide +kernel
theorem dX5_mixes_67 : decode cX5_mixes 67 = .ok (.iinc 4 1, 3) := by decide +kernel
theorem dX5_mixes_70 : decode cX5_mixes 70 = .ok (.goto (-45), 3) := by decide +kernel
theorem dX5_mixes_73 : decode cX5_mixes 73 = .ok (.aload_n 0, 1) := by decide +kernel
theorem dX5_mixes_74 : decode cX5_mixes 74 = .ok (.lload_n 2, 1) := by decide +kernel
theorem dX5_mixes_75 : decode cX5_mixes 75 = .ok (.ldc2_w 201, 3) := by decide +kernel
theorem dX5_mixes_78 : decode cX5_mixes 78 = .ok (.lcmp, 1) := by decide +kernel
theorem dX5_mixes_79 : decode cX5_mixes 79 = .ok (.ifCond .le 7, 3) := by decide +kernel
theorem dX5_mixes_82 : decode cX5_mixes 82 = .ok (.iconst 1, 1) := by decide +kernel
theorem dX5_mixes_83 : decode cX5_mixes 83 = .ok (.goto 4, 3) := by decide +kernel
theorem dX5_mixes_86 : decode cX5_mixes 86 = .ok (.iconst 0, 1) := by decide +kernel
theorem dX5_mixes_87 : decode cX5_mixes 87 = .ok (.iconst 2, 1) := by decide +kernel
theorem dX5_mixes_88 : decode cX5_mixes 88 = .ok (.invokevirtual 135, 3) := by decide +kernel
theorem dX5_mixes_91 : decode cX5_mixes 91 = .ok (.ifCond .eq 7, 3) := by decide +kernel
theorem dX5_mixes_94 : decode cX5_mixes 94 = .ok (.iconst 0, 1) := by decide +kernel
theorem dX5_mixes_95 : decode cX5_mixes 95 = .ok (.goto 5, 3) := by decide +kernel
theorem dX5_mixes_98 : decode cX5_mixes 98 = .ok (.lload_n 2, 1) := by decide +kernel
theorem dX5_mixes_99 : decode cX5_mixes 99 = .ok (.l2i, 1) := by decide +kernel
theorem dX5_mixes_100 : decode cX5_mixes 100 = .ok (.ireturn, 1) := by decide +kernel
theorem dX5_seconds_0 : decode cX5_seconds 0 = .ok (.aload_n 0, 1) := by decide +kernel
theorem dX5_seconds_1 : decode cX5_seconds 1 = .ok (.iconst 0, 1) := by decide +kernel
theorem dX5_seconds_2 : decode cX5_seconds 2 = .ok (.putfield 91, 3) := by decide +kernel
theorem dX5_seconds_5 : decode cX5_seconds 5 = .ok (.lconst 0, 1) := by decide +kernel
theorem dX5_seconds_6 : decode cX5_seconds 6 = .ok (.lstore_n 1, 1) := by decide +kernel
theorem dX5_seconds_7 : decode cX5_seconds 7 = .ok (.iconst 0, 1) := by decide +kernel
theorem dX5_seconds_8 : decode cX5_seconds 8 = .ok (.istore_n 3, 1) := by decide +kernel
theorem dX5_seconds_9 : decode cX5_seconds 9 = .ok (.iload_n 3, 1) := by decide +kernel
theorem dX5_seconds_10 : decode cX5_seconds 10 = .ok (.aload_n 0, 1) := by decide +kernel
theorem dX5_seconds_11 : decode cX5_seconds 11 = .ok (.getfield 95, 3) := by decide +kernel
theorem dX5_seconds_14 : decode cX5_seconds 14 = .ok (.if_icmp .ge 26, 3) := by decide +kernel
theorem dX5_seconds_17 : decode cX5_seconds 17 = .ok (.lload_n 1, 1) := by decide +kernel
theorem dX5_seconds_18 : decode cX5_seconds 18 = .ok (.aload_n 0, 1) := by decide +kernel
theorem dX5_seconds_19 : decode cX5_seconds 19 = .ok (.getfield 7, 3) := by decide +kernel
theorem dX5_seconds_22 : decode cX5_seconds 22 = .ok (.iload_n 3, 1) := by decide +kernel
theorem dX5_seconds_23 : decode cX5_seconds 23 = .ok (.iaload, 1) := by decide +kernel
theorem dX5_seconds_24 : decode cX5_seconds 24 = .ok (.aload_n 0, 1) := by decide +kernel
theorem dX5_seconds_25 : decode cX5_seconds 25 = .ok (.getfield 16, 3) := by decide +kernel
theorem dX5_seconds_28 : decode cX5_seconds 28 = .ok (.iload_n 3, 1) := by decide +kernel
theorem dX5_seconds_29 : decode cX5_seconds 29 = .ok (.iaload, 1) := by decide +kernel
theorem dX5_seconds_30 : decode cX5_seconds 30 = .ok (.imul, 1) := by decide +kernel
theorem dX5_seconds_31 : decode cX5_seconds 31 = .ok (.i2l, 1) := by decide +kernel
theorem dX5_seconds_32 : decode cX5_seconds 32 = .ok (.ladd, 1) := by decide +kernel
theorem dX5_seconds_33 : decode cX5_seconds 33 = .ok (.lstore_n 1, 1) := by decide +kernel
theorem dX5_seconds_34 : decode cX5_seconds 34 = .ok (.iinc 3 1, 3) := by decide +kernel
theorem dX5_seconds_37 : decode cX5_seconds 37 = .ok (.goto (-28), 3) := by decide +kernel
theorem dX5_seconds_40 : decode cX5_seconds 40 = .ok (.lload_n 1, 1) := by decide +kernel
theorem dX5_seconds_41 : decode cX5_seconds 41 = .ok (.lreturn, 1) := by decide +kernel
theorem dX5_listedShare_0 : decode cX5_listedShare 0 = .ok (.aload_n 0, 1) := by decide +kernel
theorem dX5_listedShare_1 : decode cX5_listedShare 1 = .ok (.iconst 0, 1) := by decide +kernel
theorem dX5_listedShare_2 : decode cX5_listedShare 2 = .ok (.putfield 91, 3) := by decide +kernel
theorem dX5_listedShare_5 : decode cX5_listedShare 5 = .ok (.iconst 0, 1) := by decide +kernel
theorem dX5_listedShare_6 : decode cX5_listedShare 6 = .ok (.istore_n 1, 1) := by decide +kernel
theorem dX5_listedShare_7 : decode cX5_listedShare 7 = .ok (.iconst 0, 1) := by decide +kernel
theorem dX5_listedShare_8 : decode cX5_listedShare 8 = .ok (.istore_n 2, 1) := by decide +kernel
theorem dX5_listedShare_9 : decode cX5_listedShare 9 = .ok (.iload_n 2, 1) := by decide +kernel
theorem dX5_listedShare_10 : decode cX5_listedShare 10 = .ok (.aload_n 0, 1) := by decide +kernel
theorem dX5_listedShare_11 : decode cX5_listedShare 11 = .ok (.getfield 108, 3) := by decide +kernel
theorem dX5_listedShare_14 : decode cX5_listedShare 14 = .ok (.if_icmp .ge 18, 3) := by decide +kernel
theorem dX5_listedShare_17 : decode cX5_listedShare 17 = .ok (.iload_n 1, 1) := by decide +kernel
theorem dX5_listedShare_18 : decode cX5_listedShare 18 = .ok (.aload_n 0, 1) := by decide +kernel
theorem dX5_listedShare_19 : decode cX5_listedShare 19 = .ok (.getfield 60, 3) := by decide +kernel
theorem dX5_listedShare_22 : decode cX5_listedShare 22 = .ok (.iload_n 2, 1) := by decide +kernel
theorem dX5_listedShare_23 : decode cX5_listedShare 23 = .ok (.iaload, 1) := by decide +kernel
theorem dX5_listedShare_24 : decode cX5_listedShare 24 = .ok (.ior, 1) := by decide +kernel
theorem dX5_listedShare_25 : decode cX5_listedShare 25 = .ok (.istore_n 1, 1) := by decide +kernel
theorem dX5_listedShare_26 : decode cX5_listedShare 26 = .ok (.iinc 2 1, 3) := by decide +kernel
theorem dX5_listedShare_29 : decode cX5_listedShare 29 = .ok (.goto (-20), 3) := by decide +kernel
theorem dX5_listedShare_32 : decode cX5_listedShare 32 = .ok (.aload_n 0, 1) := by decide +kernel
theorem dX5_listedShare_33 : decode cX5_listedShare 33 = .ok (.aload_n 0, 1) := by decide +kernel
theorem dX5_listedShare_34 : decode cX5_listedShare 34 = .ok (.invokevirtual 146, 3) := by decide +kernel
theorem dX5_listedShare_37 : decode cX5_listedShare 37 = .ok (.ifCond .ne 7, 3) := by decide +kernel
theorem dX5_listedShare_40 : decode cX5_listedShare 40 = .ok (.iconst 1, 1) := by decide +kernel
theorem dX5_listedShare_41 : decode cX5_listedShare 41 = .ok (.goto 4, 3) := by decide +kernel
theorem dX5_listedShare_44 : decode cX5_listedShare 44 = .ok (.iconst 0, 1) := by decide +kernel
theorem dX5_listedShare_45 : decode cX5_listedShare 45 = .ok (.iconst 1, 1) := by decide +kernel
theorem dX5_listedShare_46 : decode cX5_listedShare 46 = .ok (.invokevirtual 135, 3) := by decide +kernel
theorem dX5_listedShare_49 : decode cX5_listedShare 49 = .ok (.ifCond .eq 7, 3) := by decide +kernel
theorem dX5_listedShare_52 : decode cX5_listedShare 52 = .ok (.fconst 0, 1) := by decide +kernel
theorem dX5_listedShare_53 : decode cX5_listedShare 53 = .ok (.goto 14, 3) := by decide +kernel
theorem dX5_listedShare_56 : decode cX5_listedShare 56 = .ok (.iload_n 1, 1) := by decide +kernel
theorem dX5_listedShare_57 : decode cX5_listedShare 57 = .ok (.invokestatic 156, 3) := by decide +kernel
theorem dX5_listedShare_60 : decode cX5_listedShare 60 = .ok (.i2f, 1) := by decide +kernel
theorem dX5_listedShare_61 : decode cX5_listedShare 61 = .ok (.aload_n 0, 1) := by decide +kernel
theorem dX5_listedShare_62 : decode cX5_listedShare 62 = .ok (.invokevirtual 146, 3) := by decide +kernel
theorem dX5_listedShare_65 : decode cX5_listedShare 65 = .ok (.i2f, 1) := by decide +kernel
theorem dX5_listedShare_66 : decode cX5_listedShare 66 = .ok (.fdiv, 1) := by decide +kernel
theorem dX5_listedShare_67 : decode cX5_listedShare 67 = .ok (.freturn, 1) := by decide +kernel
theorem dX5_meanLength_0 : decode cX5_meanLength 0 = .ok (.aload_n 0, 1) := by decide +kernel
theorem dX5_meanLength_1 : decode cX5_meanLength 1 = .ok (.iconst 0, 1) := by decide +kernel
theorem dX5_meanLength_2 : decode cX5_meanLength 2 = .ok (.putfield 91, 3) := by decide +kernel
theorem dX5_meanLength_5 : decode cX5_meanLength 5 = .ok (.aload_n 0, 1) := by decide +kernel
theorem dX5_meanLength_6 : decode cX5_meanLength 6 = .ok (.aload_n 0, 1) := by decide +kernel
theorem dX5_meanLength_7 : decode cX5_meanLength 7 = .ok (.iload_n 1, 1) := by decide +kernel
theorem dX5_meanLength_8 : decode cX5_meanLength 8 = .ok (.invokevirtual 175, 3) := by decide +kernel
theorem dX5_meanLength_11 : decode cX5_meanLength 11 = .ok (.iconst 1, 1) := by decide +kernel
theorem dX5_meanLength_12 : decode cX5_meanLength 12 = .ok (.invokevirtual 135, 3) := by decide +kernel
theorem dX5_meanLength_15 : decode cX5_meanLength 15 = .ok (.ifCond .ne 25, 3) := by decide +kernel
theorem dX5_meanLength_18 : decode cX5_meanLength 18 = .ok (.aload_n 0, 1) := by decide +kernel
theorem dX5_meanLength_19 : decode cX5_meanLength 19 = .ok (.aload_n 0, 1) := by decide +kernel
theorem dX5_meanLength_20 : decode cX5_meanLength 20 = .ok (.getfield 69, 3) := by decide +kernel
theorem dX5_meanLength_23 : decode cX5_meanLength 23 = .ok (.iload_n 1, 1) := by decide +kernel
theorem dX5_meanLength_24 : decode cX5_meanLength 24 = .ok (.iaload, 1) := by decide +kernel
theorem dX5_meanLength_25 : decode cX5_meanLength 25 = .ok (.ifCond .ne 7, 3) := by decide +kernel
theorem dX5_meanLength_28 : decode cX5_meanLength 28 = .ok (.iconst 1, 1) := by decide +kernel
theorem dX5_meanLength_29 : decode cX5_meanLength 29 = .ok (.goto 4, 3) := by decide +kernel
theorem dX5_meanLength_32 : decode cX5_meanLength 32 = .ok (.iconst 0, 1) := by decide +kernel
theorem dX5_meanLength_33 : decode cX5_meanLength 33 = .ok (.iconst 2, 1) := by decide +kernel
theorem dX5_meanLength_34 : decode cX5_meanLength 34 = .ok (.invokevirtual 135, 3) := by decide +kernel
theorem dX5_meanLength_37 : decode cX5_meanLength 37 = .ok (.ifCond .eq 7, 3) := by decide +kernel
theorem dX5_meanLength_40 : decode cX5_meanLength 40 = .ok (.dconst 0, 1) := by decide +kernel
theorem dX5_meanLength_41 : decode cX5_meanLength 41 = .ok (.goto 17, 3) := by decide +kernel
theorem dX5_meanLength_44 : decode cX5_meanLength 44 = .ok (.aload_n 0, 1) := by decide +kernel
theorem dX5_meanLength_45 : decode cX5_meanLength 45 = .ok (.iload_n 1, 1) := by decide +kernel
theorem dX5_meanLength_46 : decode cX5_meanLength 46 = .ok (.invokevirtual 198, 3) := by decide +kernel
theorem dX5_meanLength_49 : decode cX5_meanLength 49 = .ok (.i2d, 1) := by decide +kernel
theorem dX5_meanLength_50 : decode cX5_meanLength 50 = .ok (.aload_n 0, 1) := by decide +kernel
theorem dX5_meanLength_51 : decode cX5_meanLength 51 = .ok (.getfield 69, 3) := by decide +kernel
theorem dX5_meanLength_54 : decode cX5_meanLength 54 = .ok (.iload_n 1, 1) := by decide +kernel
theorem dX5_meanLength_55 : decode cX5_meanLength 55 = .ok (.iaload, 1) := by decide +kernel
theorem dX5_meanLength_56 : decode cX5_meanLength 56 = .ok (.i2d, 1) := by decide +kernel
theorem dX5_meanLength_57 : decode cX5_meanLength 57 = .ok (.ddiv, 1) := by decide +kernel
theorem dX5_meanLength_58 : decode cX5_meanLength 58 = .ok (.dreturn, 1) := by decide +kernel
