theorem dX0_init_0 : decode cX0_init 0 = .ok (.aload_n 0, 1) := by decide +kernel
theorem dX0_init_1 : decode cX0_init 1 = .ok (.invokespecial 3, 3) := by decide +kernel
theorem dX0_init_4 : decode cX0_init 4 = .ok (.aload_n 0, 1) := by decide +kernel
theorem dX0_init_5 : decode cX0_init 5 = .ok (.bipush 20, 2) := by decide +kernel
theorem dX0_init_7 : decode cX0_init 7 = .ok (.newarray .int, 2) := by decide +kernel
theorem dX0_init_9 : decode cX0_init 9 = .ok (.putfield 11, 3) := by decide +kernel
theorem dX0_init_12 : decode cX0_init 12 = .ok (.return_, 1) := by decide +kernel
theorem dX0_run_0 : decode cX0_run 0 = .ok (.iload_n 1, 1) := by decide +kernel
theorem dX0_run_1 : decode cX0_run 1 = .ok (.istore 5, 2) := by decide +kernel
theorem dX0_run_3 : decode cX0_run 3 = .ok (.iconst 0, 1) := by decide +kernel
theorem dX0_run_4 : decode cX0_run 4 = .ok (.istore 6, 2) := by decide +kernel
theorem dX0_run_6 : decode cX0_run 6 = .ok (.iload 6, 2) := by decide +kernel
theorem dX0_run_8 : decode cX0_run 8 = .ok (.bipush 7, 2) := by decide +kernel
theorem dX0_run_10 : decode cX0_run 10 = .ok (.if_icmp .ge 35, 3) := by decide +kernel
theorem dX0_run_13 : decode cX0_run 13 = .ok (.iload 5, 2) := by decide +kernel
theorem dX0_run_15 : decode cX0_run 15 = .ok (.ifCond .le 30, 3) := by decide +kernel
theorem dX0_run_18 : decode cX0_run 18 = .ok (.getstatic 15, 3) := by decide +kernel
theorem dX0_run_21 : decode cX0_run 21 = .ok (.iload 5, 2) := by decide +kernel
theorem dX0_run_23 : decode cX0_run 23 = .ok (.iconst 3, 1) := by decide +kernel
theorem dX0_run_24 : decode cX0_run 24 = .ok (.imul, 1) := by decide +kernel
theorem dX0_run_25 : decode cX0_run 25 = .ok (.iload_n 2, 1) := by decide +kernel
theorem dX0_run_26 : decode cX0_run 26 = .ok (.iadd, 1) := by decide +kernel
theorem dX0_run_27 : decode cX0_run 27 = .ok (.iaload, 1) := by decide +kernel
theorem dX0_run_28 : decode cX0_run 28 = .ok (.ifCond .ge 17, 3) := by decide +kernel
theorem dX0_run_31 : decode cX0_run 31 = .ok (.getstatic 18, 3) := by decide +kernel
theorem dX0_run_34 : decode cX0_run 34 = .ok (.iload 5, 2) := by decide +kernel
theorem dX0_run_36 : decode cX0_run 36 = .ok (.iaload, 1) := by decide +kernel
theorem dX0_run_37 : decode cX0_run 37 = .ok (.istore 5, 2) := by decide +kernel
theorem dX0_run_39 : decode cX0_run 39 = .ok (.iinc 6 1, 3) := by decide +kernel
theorem dX0_run_42 : decode cX0_run 42 = .ok (.goto (-36), 3) := by decide +kernel
theorem dX0_run_45 : decode cX0_run 45 = .ok (.iload 5, 2) := by decide +kernel
theorem dX0_run_47 : decode cX0_run 47 = .ok (.ifCond .lt 10, 3) := by decide +kernel
theorem dX0_run_50 : decode cX0_run 50 = .ok (.iload 4, 2) := by decide +kernel
theorem dX0_run_52 : decode cX0_run 52 = .ok (.bipush 40, 2) := by decide +kernel
theorem dX0_run_54 : decode cX0_run 54 = .ok (.if_icmp .lt 5, 3) := by decide +kernel
theorem dX0_run_57 : decode cX0_run 57 = .ok (.iconst 0, 1) := by decide +kernel
theorem dX0_run_58 : decode cX0_run 58 = .ok (.ireturn, 1) := by decide +kernel
theorem dX0_run_59 : decode cX0_run 59 = .ok (.getstatic 15, 3) := by decide +kernel
theorem dX0_run_62 : decode cX0_run 62 = .ok (.iload 5, 2) := by decide +kernel
theorem dX0_run_64 : decode cX0_run 64 = .ok (.iconst 3, 1) := by decide +kernel
theorem dX0_run_65 : decode cX0_run 65 = .ok (.imul, 1) := by decide +kernel
theorem dX0_run_66 : decode cX0_run 66 = .ok (.iload_n 2, 1) := by decide +kernel
theorem dX0_run_67 : decode cX0_run 67 = .ok (.iadd, 1) := by decide +kernel
theorem dX0_run_68 : decode cX0_run 68 = .ok (.iaload, 1) := by decide +kernel
theorem dX0_run_69 : decode cX0_run 69 = .ok (.istore 6, 2) := by decide +kernel
theorem dX0_run_71 : decode cX0_run 71 = .ok (.aload_n 0, 1) := by decide +kernel
theorem dX0_run_72 : decode cX0_run 72 = .ok (.iload 6, 2) := by decide +kernel
theorem dX0_run_74 : decode cX0_run 74 = .ok (.invokevirtual 21, 3) := by decide +kernel
theorem dX0_run_77 : decode cX0_run 77 = .ok (.aload_n 0, 1) := by decide +kernel
theorem dX0_run_78 : decode cX0_run 78 = .ok (.iload 6, 2) := by decide +kernel
theorem dX0_run_80 : decode cX0_run 80 = .ok (.getstatic 18, 3) := by decide +kernel
theorem dX0_run_83 : decode cX0_run 83 = .ok (.iload 5, 2) := by decide +kernel
theorem dX0_run_85 : decode cX0_run 85 = .ok (.iaload, 1) := by decide +kernel
theorem dX0_run_86 : decode cX0_run 86 = .ok (.iload_n 3, 1) := by decide +kernel
theorem dX0_run_87 : decode cX0_run 87 = .ok (.iload 4, 2) := by decide +kernel
theorem dX0_run_89 : decode cX0_run 89 = .ok (.iconst 1, 1) := by decide +kernel
theorem dX0_run_90 : decode cX0_run 90 = .ok (.iadd, 1) := by decide +kernel
theorem dX0_run_91 : decode cX0_run 91 = .ok (.invokevirtual 25, 3) := by decide +kernel
theorem dX0_run_94 : decode cX0_run 94 = .ok (.ireturn, 1) := by decide +kernel
theorem dX0_done_0 : decode cX0_done 0 = .ok (.iload_n 1, 1) := by decide +kernel
theorem dX0_done_1 : decode cX0_done 1 = .ok (.lookupswitch 260 #[(10, 99), (11, 106), (12, 124), (20, 139), (30, 152), (40, 164), (50, 187), (51, 198), (60, 210), (70, 225), (71, 245)], 99) := by decide +kernel
theorem dX0_done_100 : decode cX0_done 100 = .ok (.iload_n 3, 1) := by decide +kernel
theorem dX0_done_101 : decode cX0_done 101 = .ok (.aload_n 0, 1) := by decide +kernel
theorem dX0_done_102 : decode cX0_done 102 = .ok (.getfield 29, 3) := by decide +kernel
theorem dX0_done_105 : decode cX0_done 105 = .ok (.iadd, 1) := by decide +kernel
theorem dX0_done_106 : decode cX0_done 106 = .ok (.ireturn, 1) := by decide +kernel
theorem dX0_done_107 : decode cX0_done 107 = .ok (.aload_n 0, 1) := by decide +kernel
theorem dX0_done_108 : decode cX0_done 108 = .ok (.aload_n 0, 1) := by decide +kernel
theorem dX0_done_109 : decode cX0_done 109 = .ok (.getfield 33, 3) := by decide +kernel
theorem dX0_done_112 : decode cX0_done 112 = .ok (.iconst 0, 1) := by decide +kernel
theorem dX0_done_113 : decode cX0_done 113 = .ok (.iload_n 3, 1) := by decide +kernel
theorem dX0_done_114 : decode cX0_done 114 = .ok (.iload 4, 2) := by decide +kernel
theorem dX0_done_116 : decode cX0_done 116 = .ok (.invokevirtual 36, 3) := by decide +kernel
theorem dX0_done_119 : decode cX0_done 119 = .ok (.aload_n 0, 1) := by decide +kernel
theorem dX0_done_120 : decode cX0_done 120 = .ok (.getfield 39, 3) := by decide +kernel
theorem dX0_done_123 : decode cX0_done 123 = .ok (.isub, 1) := by decide +kernel
theorem dX0_done_124 : decode cX0_done 124 = .ok (.ireturn, 1) := by decide +kernel
theorem dX0_done_125 : decode cX0_done 125 = .ok (.aload_n 0, 1) := by decide +kernel
theorem dX0_done_126 : decode cX0_done 126 = .ok (.aload_n 0, 1) := by decide +kernel
theorem dX0_done_127 : decode cX0_done 127 = .ok (.getfield 33, 3) := by decide +kernel
theorem dX0_done_130 : decode cX0_done 130 = .ok (.iconst 1, 1) := by decide +kernel
theorem dX0_done_131 : decode cX0_done 131 = .ok (.iload_n 3, 1) := by decide +kernel
theorem dX0_done_132 : decode cX0_done 132 = .ok (.iload 4, 2) := by decide +kernel
theorem dX0_done_134 : decode cX0_done 134 = .ok (.invokevirtual 36, 3) := by decide +kernel
theorem dX0_done_137 : decode cX0_done 137 = .ok (.iconst 2, 1) := by decide +kernel
theorem dX0_done_138 : decode cX0_done 138 = .ok (.imul, 1) := by decide +kernel
theorem dX0_done_139 : decode cX0_done 139 = .ok (.ireturn, 1) := by decide +kernel
theorem dX0_done_140 : decode cX0_done 140 = .ok (.aload_n 0, 1) := by decide +kernel
theorem dX0_done_141 : decode cX0_done 141 = .ok (.iload_n 2, 1) := by decide +kernel
theorem dX0_done_142 : decode cX0_done 142 = .ok (.iconst 1, 1) := by decide +kernel
theorem dX0_done_143 : decode cX0_done 143 = .ok (.iload_n 3, 1) := by decide +kernel
theorem dX0_done_144 : decode cX0_done 144 = .ok (.iload 4, 2) := by decide +kernel
theorem dX0_done_146 : decode cX0_done 146 = .ok (.invokevirtual 36, 3) := by decide +kernel
theorem dX0_done_149 : decode cX0_done 149 = .ok (.bipush 6, 2) := by decide +kernel
theorem dX0_done_151 : decode cX0_done 151 = .ok (.ixor, 1) := by decide +kernel
theorem dX0_done_152 : decode cX0_done 152 = .ok (.ireturn, 1) := by decide +kernel
theorem dX0_done_153 : decode cX0_done 153 = .ok (.aload_n 0, 1) := by decide +kernel
theorem dX0_done_154 : decode cX0_done 154 = .ok (.iload_n 2, 1) := by decide +kernel
theorem dX0_done_155 : decode cX0_done 155 = .ok (.iconst 0, 1) := by decide +kernel
theorem dX0_done_156 : decode cX0_done 156 = .ok (.iload_n 3, 1) := by decide +kernel
theorem dX0_done_157 : decode cX0_done 157 = .ok (.iconst 3, 1) := by decide +kernel
theorem dX0_done_158 : decode cX0_done 158 = .ok (.imul, 1) := by decide +kernel
theorem dX0_done_159 : decode cX0_done 159 = .ok (.iload 4, 2) := by decide +kernel
theorem dX0_done_161 : decode cX0_done 161 = .ok (.invokevirtual 36, 3) := by decide +kernel
theorem dX0_done_164 : decode cX0_done 164 = .ok (.ireturn, 1) := by decide +kernel
theorem dX0_done_165 : decode cX0_done 165 = .ok (.aload_n 0, 1) := by decide +kernel
theorem dX0_done_166 : decode cX0_done 166 = .ok (.iload_n 2, 1) := by decide +kernel
theorem dX0_done_167 : decode cX0_done 167 = .ok (.iconst 2, 1) := by decide +kernel
theorem dX0_done_168 : decode cX0_done 168 = .ok (.iload_n 3, 1) := by decide +kernel
theorem dX0_done_169 : decode cX0_done 169 = .ok (.iload 4, 2) := by decide +kernel
theorem dX0_done_171 : decode cX0_done 171 = .ok (.invokevirtual 36, 3) := by decide +kernel
theorem dX0_done_174 : decode cX0_done 174 = .ok (.aload_n 0, 1) := by decide +kernel
theorem dX0_done_175 : decode cX0_done 175 = .ok (.aload_n 0, 1) := by decide +kernel
theorem dX0_done_176 : decode cX0_done 176 = .ok (.getfield 33, 3) := by decide +kernel
theorem dX0_done_179 : decode cX0_done 179 = .ok (.iconst 1, 1) := by decide +kernel
theorem dX0_done_180 : decode cX0_done 180 = .ok (.iconst 1, 1) := by decide +kernel
theorem dX0_done_181 : decode cX0_done 181 = .ok (.iload 4, 2) := by decide +kernel
theorem dX0_done_183 : decode cX0_done 183 = .ok (.invokevirtual 36, 3) := by decide +kernel
theorem dX0_done_186 : decode cX0_done 186 = .ok (.iadd, 1) := by decide +kernel
theorem dX0_done_187 : decode cX0_done 187 = .ok (.ireturn, 1) := by decide +kernel
theorem dX0_done_188 : decode cX0_done 188 = .ok (.aload_n 0, 1) := by decide +kernel
theorem dX0_done_189 : decode cX0_done 189 = .ok (.iload_n 2, 1) := by decide +kernel
theorem dX0_done_190 : decode cX0_done 190 = .ok (.iconst 0, 1) := by decide +kernel
theorem dX0_done_191 : decode cX0_done 191 = .ok (.iload_n 3, 1) := by decide +kernel
theorem dX0_done_192 : decode cX0_done 192 = .ok (.iload 4, 2) := by decide +kernel
theorem dX0_done_194 : decode cX0_done 194 = .ok (.invokevirtual 36, 3) := by decide +kernel
theorem dX0_done_197 : decode cX0_done 197 = .ok (.ineg, 1) := by decide +kernel
theorem dX0_done_198 : decode cX0_done 198 = .ok (.ireturn, 1) := by decide +kernel
theorem dX0_done_199 : decode cX0_done 199 = .ok (.aload_n 0, 1) := by decide +kernel
theorem dX0_done_200 : decode cX0_done 200 = .ok (.iload_n 2, 1) := by decide +kernel
theorem dX0_done_201 : decode cX0_done 201 = .ok (.iconst 1, 1) := by decide +kernel
theorem dX0_done_202 : decode cX0_done 202 = .ok (.iload_n 3, 1) := by decide +kernel
theorem dX0_done_203 : decode cX0_done 203 = .ok (.iconst 1, 1) := by decide +kernel
theorem dX0_done_204 : decode cX0_done 204 = .ok (.iadd, 1) := by decide +kernel
theorem dX0_done_205 : decode cX0_done 205 = .ok (.iload 4, 2) := by decide +kernel
theorem dX0_done_207 : decode cX0_done 207 = .ok (.invokevirtual 36, 3) := by decide +kernel
theorem dX0_done_210 : decode cX0_done 210 = .ok (.ireturn, 1) := by decide +kernel
theorem dX0_done_211 : decode cX0_done 211 = .ok (.aload_n 0, 1) := by decide +kernel
theorem dX0_done_212 : decode cX0_done 212 = .ok (.iload_n 2, 1) := by decide +kernel
theorem dX0_done_213 : decode cX0_done 213 = .ok (.iconst 2, 1) := by decide +kernel
theorem dX0_done_214 : decode cX0_done 214 = .ok (.iload_n 3, 1) := by decide +kernel
theorem dX0_done_215 : decode cX0_done 215 = .ok (.aload_n 0, 1) := by decide +kernel
theorem dX0_done_216 : decode cX0_done 216 = .ok (.getfield 29, 3) := by decide +kernel
theorem dX0_done_219 : decode cX0_done 219 = .ok (.isub, 1) := by decide +kernel
theorem dX0_done_220 : decode cX0_done 220 = .ok (.iload 4, 2) := by decide +kernel
theorem dX0_done_222 : decode cX0_done 222 = .ok (.invokevirtual 36, 3) := by decide +kernel
theorem dX0_done_225 : decode cX0_done 225 = .ok (.ireturn, 1) := by decide +kernel
theorem dX0_done_226 : decode cX0_done 226 = .ok (.aload_n 0, 1) := by decide +kernel
theorem dX0_done_227 : decode cX0_done 227 = .ok (.iload_n 2, 1) := by decide +kernel
theorem dX0_done_228 : decode cX0_done 228 = .ok (.iconst 1, 1) := by decide +kernel
theorem dX0_done_229 : decode cX0_done 229 = .ok (.iload_n 3, 1) := by decide +kernel
theorem dX0_done_230 : decode cX0_done 230 = .ok (.iload 4, 2) := by decide +kernel
theorem dX0_done_232 : decode cX0_done 232 = .ok (.invokevirtual 36, 3) := by decide +kernel
theorem dX0_done_235 : decode cX0_done 235 = .ok (.aload_n 0, 1) := by decide +kernel
theorem dX0_done_236 : decode cX0_done 236 = .ok (.iload_n 2, 1) := by decide +kernel
theorem dX0_done_237 : decode cX0_done 237 = .ok (.iconst 0, 1) := by decide +kernel
theorem dX0_done_238 : decode cX0_done 238 = .ok (.iconst 2, 1) := by decide +kernel
theorem dX0_done_239 : decode cX0_done 239 = .ok (.iload 4, 2) := by decide +kernel
theorem dX0_done_241 : decode cX0_done 241 = .ok (.invokevirtual 36, 3) := by decide +kernel
theorem dX0_done_244 : decode cX0_done 244 = .ok (.iadd, 1) := by decide +kernel
theorem dX0_done_245 : decode cX0_done 245 = .ok (.ireturn, 1) := by decide +kernel
theorem dX0_done_246 : decode cX0_done 246 = .ok (.aload_n 0, 1) := by decide +kernel
theorem dX0_done_247 : decode cX0_done 247 = .ok (.iload_n 2, 1) := by decide +kernel
theorem dX0_done_248 : decode cX0_done 248 = .ok (.iconst 0, 1) := by decide +kernel
theorem dX0_done_249 : decode cX0_done 249 = .ok (.iload_n 3, 1) := by decide +kernel
theorem dX0_done_250 : decode cX0_done 250 = .ok (.iload 4, 2) := by decide +kernel
theorem dX0_done_252 : decode cX0_done 252 = .ok (.invokevirtual 36, 3) := by decide +kernel
theorem dX0_done_255 : decode cX0_done 255 = .ok (.aload_n 0, 1) := by decide +kernel
theorem dX0_done_256 : decode cX0_done 256 = .ok (.getfield 39, 3) := by decide +kernel
theorem dX0_done_259 : decode cX0_done 259 = .ok (.ixor, 1) := by decide +kernel
theorem dX0_done_260 : decode cX0_done 260 = .ok (.ireturn, 1) := by decide +kernel
theorem dX0_done_261 : decode cX0_done 261 = .ok (.iconst 0, 1) := by decide +kernel
theorem dX0_done_262 : decode cX0_done 262 = .ok (.ireturn, 1) := by decide +kernel
theorem dX0_note_0 : decode cX0_note 0 = .ok (.aload_n 0, 1) := by decide +kernel
theorem dX0_note_1 : decode cX0_note 1 = .ok (.getfield 42, 3) := by decide +kernel
theorem dX0_note_4 : decode cX0_note 4 = .ok (.bipush 20, 2) := by decide +kernel
theorem dX0_note_6 : decode cX0_note 6 = .ok (.if_icmp .ge 13, 3) := by decide +kernel
theorem dX0_note_9 : decode cX0_note 9 = .ok (.aload_n 0, 1) := by decide +kernel
theorem dX0_note_10 : decode cX0_note 10 = .ok (.getfield 11, 3) := by decide +kernel
theorem dX0_note_13 : decode cX0_note 13 = .ok (.aload_n 0, 1) := by decide +kernel
theorem dX0_note_14 : decode cX0_note 14 = .ok (.getfield 42, 3) := by decide +kernel
theorem dX0_note_17 : decode cX0_note 17 = .ok (.iload_n 1, 1) := by decide +kernel
theorem dX0_note_18 : decode cX0_note 18 = .ok (.iastore, 1) := by decide +kernel
theorem dX0_note_19 : decode cX0_note 19 = .ok (.aload_n 0, 1) := by decide +kernel
theorem dX0_note_20 : decode cX0_note 20 = .ok (.dup, 1) := by decide +kernel
theorem dX0_note_21 : decode cX0_note 21 = .ok (.getfield 42, 3) := by decide +kernel
theorem dX0_note_24 : decode cX0_note 24 = .ok (.iconst 1, 1) := by decide +kernel
theorem dX0_note_25 : decode cX0_note 25 = .ok (.iadd, 1) := by decide +kernel
theorem dX0_note_26 : decode cX0_note 26 = .ok (.putfield 42, 3) := by decide +kernel
theorem dX0_note_29 : decode cX0_note 29 = .ok (.return_, 1) := by decide +kernel
theorem dX1_init_0 : decode cX1_init 0 = .ok (.aload_n 0, 1) := by decide +kernel
theorem dX1_init_1 : decode cX1_init 1 = .ok (.invokespecial 3, 3) := by decide +kernel
theorem dX1_init_4 : decode cX1_init 4 = .ok (.aload_n 0, 1) := by decide +kernel
theorem dX1_init_5 : decode cX1_init 5 = .ok (.sipush 1600, 3) := by decide +kernel
theorem dX1_init_8 : decode cX1_init 8 = .ok (.newarray .int, 2) := by decide +kernel
theorem dX1_init_10 : decode cX1_init 10 = .ok (.putfield 9, 3) := by decide +kernel
theorem dX1_init_13 : decode cX1_init 13 = .ok (.aload_n 0, 1) := by decide +kernel
theorem dX1_init_14 : decode cX1_init 14 = .ok (.iload_n 1, 1) := by decide +kernel
theorem dX1_init_15 : decode cX1_init 15 = .ok (.putfield 15, 3) := by decide +kernel
theorem dX1_init_18 : decode cX1_init 18 = .ok (.aload_n 0, 1) := by decide +kernel
theorem dX1_init_19 : decode cX1_init 19 = .ok (.iload_n 2, 1) := by decide +kernel
theorem dX1_init_20 : decode cX1_init 20 = .ok (.putfield 19, 3) := by decide +kernel
theorem dX1_init_23 : decode cX1_init 23 = .ok (.iconst 0, 1) := by decide +kernel
theorem dX1_init_24 : decode cX1_init 24 = .ok (.istore_n 3, 1) := by decide +kernel
theorem dX1_init_25 : decode cX1_init 25 = .ok (.iload_n 3, 1) := by decide +kernel
theorem dX1_init_26 : decode cX1_init 26 = .ok (.aload_n 0, 1) := by decide +kernel
theorem dX1_init_27 : decode cX1_init 27 = .ok (.getfield 9, 3) := by decide +kernel
theorem dX1_init_30 : decode cX1_init 30 = .ok (.arraylength, 1) := by decide +kernel
theorem dX1_init_31 : decode cX1_init 31 = .ok (.if_icmp .ge 16, 3) := by decide +kernel
theorem dX1_init_34 : decode cX1_init 34 = .ok (.aload_n 0, 1) := by decide +kernel
theorem dX1_init_35 : decode cX1_init 35 = .ok (.getfield 9, 3) := by decide +kernel
theorem dX1_init_38 : decode cX1_init 38 = .ok (.iload_n 3, 1) := by decide +kernel
theorem dX1_init_39 : decode cX1_init 39 = .ok (.iconst 2, 1) := by decide +kernel
theorem dX1_init_40 : decode cX1_init 40 = .ok (.iastore, 1) := by decide +kernel
theorem dX1_init_41 : decode cX1_init 41 = .ok (.iinc 3 1, 3) := by decide +kernel
theorem dX1_init_44 : decode cX1_init 44 = .ok (.goto (-19), 3) := by decide +kernel
theorem dX1_init_47 : decode cX1_init 47 = .ok (.return_, 1) := by decide +kernel
theorem dX1_learn_0 : decode cX1_learn 0 = .ok (.aload_n 3, 1) := by decide +kernel
theorem dX1_learn_1 : decode cX1_learn 1 = .ok (.iconst 0, 1) := by decide +kernel
theorem dX1_learn_2 : decode cX1_learn 2 = .ok (.aload_n 0, 1) := by decide +kernel
theorem dX1_learn_3 : decode cX1_learn 3 = .ok (.getfield 9, 3) := by decide +kernel
theorem dX1_learn_6 : decode cX1_learn 6 = .ok (.iload_n 2, 1) := by decide +kernel
theorem dX1_learn_7 : decode cX1_learn 7 = .ok (.bipush 10, 2) := by decide +kernel
theorem dX1_learn_9 : decode cX1_learn 9 = .ok (.imul, 1) := by decide +kernel
theorem dX1_learn_10 : decode cX1_learn 10 = .ok (.iload_n 1, 1) := by decide +kernel
theorem dX1_learn_11 : decode cX1_learn 11 = .ok (.iadd, 1) := by decide +kernel
theorem dX1_learn_12 : decode cX1_learn 12 = .ok (.bipush 16, 2) := by decide +kernel
theorem dX1_learn_14 : decode cX1_learn 14 = .ok (.imul, 1) := by decide +kernel
theorem dX1_learn_15 : decode cX1_learn 15 = .ok (.bipush 16, 2) := by decide +kernel
theorem dX1_learn_17 : decode cX1_learn 17 = .ok (.invokestatic 22, 3) := by decide +kernel
theorem dX1_learn_20 : decode cX1_learn 20 = .ok (.return_, 1) := by decide +kernel
theorem dX1_growthOf_0 : decode cX1_growthOf 0 = .ok (.aload_n 0, 1) := by decide +kernel
theorem dX1_growthOf_1 : decode cX1_growthOf 1 = .ok (.getfield 9, 3) := by decide +kernel
theorem dX1_growthOf_4 : decode cX1_growthOf 4 = .ok (.iload_n 3, 1) := by decide +kernel
theorem dX1_growthOf_5 : decode cX1_growthOf 5 = .ok (.bipush 10, 2) := by decide +kernel
theorem dX1_growthOf_7 : decode cX1_growthOf 7 = .ok (.irem, 1) := by decide +kernel
theorem dX1_growthOf_8 : decode cX1_growthOf 8 = .ok (.bipush 10, 2) := by decide +kernel
theorem dX1_growthOf_10 : decode cX1_growthOf 10 = .ok (.imul, 1) := by decide +kernel
theorem dX1_growthOf_11 : decode cX1_growthOf 11 = .ok (.iload_n 2, 1) := by decide +kernel
theorem dX1_growthOf_12 : decode cX1_growthOf 12 = .ok (.bipush 10, 2) := by decide +kernel
theorem dX1_growthOf_14 : decode cX1_growthOf 14 = .ok (.idiv, 1) := by decide +kernel
theorem dX1_growthOf_15 : decode cX1_growthOf 15 = .ok (.iadd, 1) := by decide +kernel
theorem dX1_growthOf_16 : decode cX1_growthOf 16 = .ok (.bipush 16, 2) := by decide +kernel
theorem dX1_growthOf_18 : decode cX1_growthOf 18 = .ok (.imul, 1) := by decide +kernel
theorem dX1_growthOf_19 : decode cX1_growthOf 19 = .ok (.iload_n 1, 1) := by decide +kernel
theorem dX1_growthOf_20 : decode cX1_growthOf 20 = .ok (.iadd, 1) := by decide +kernel
theorem dX1_growthOf_21 : decode cX1_growthOf 21 = .ok (.iaload, 1) := by decide +kernel
theorem dX1_growthOf_22 : decode cX1_growthOf 22 = .ok (.ireturn, 1) := by decide +kernel
theorem dX1_grown_0 : decode cX1_grown 0 = .ok (.iconst 0, 1) := by decide +kernel
theorem dX1_grown_1 : decode cX1_grown 1 = .ok (.bipush 99, 2) := by decide +kernel
theorem dX1_grown_3 : decode cX1_grown 3 = .ok (.iload_n 2, 1) := by decide +kernel
theorem dX1_grown_4 : decode cX1_grown 4 = .ok (.aload_n 0, 1) := by decide +kernel
theorem dX1_grown_5 : decode cX1_grown 5 = .ok (.iload_n 1, 1) := by decide +kernel
theorem dX1_grown_6 : decode cX1_grown 6 = .ok (.iload_n 2, 1) := by decide +kernel
theorem dX1_grown_7 : decode cX1_grown 7 = .ok (.iload_n 3, 1) := by decide +kernel
theorem dX1_grown_8 : decode cX1_grown 8 = .ok (.invokevirtual 28, 3) := by decide +kernel
theorem dX1_grown_11 : decode cX1_grown 11 = .ok (.iadd, 1) := by decide +kernel
theorem dX1_grown_12 : decode cX1_grown 12 = .ok (.invokestatic 32, 3) := by decide +kernel
theorem dX1_grown_15 : decode cX1_grown 15 = .ok (.invokestatic 38, 3) := by decide +kernel
theorem dX1_grown_18 : decode cX1_grown 18 = .ok (.ireturn, 1) := by decide +kernel
theorem dX2_init_0 : decode cX2_init 0 = .ok (.aload_n 0, 1) := by decide +kernel
theorem dX2_init_1 : decode cX2_init 1 = .ok (.invokespecial 3, 3) := by decide +kernel
theorem dX2_init_4 : decode cX2_init 4 = .ok (.aload_n 0, 1) := by decide +kernel
theorem dX2_init_5 : decode cX2_init 5 = .ok (.bipush 16, 2) := by decide +kernel
theorem dX2_init_7 : decode cX2_init 7 = .ok (.newarray .int, 2) := by decide +kernel
theorem dX2_init_9 : decode cX2_init 9 = .ok (.putfield 9, 3) := by decide +kernel
theorem dX2_init_12 : decode cX2_init 12 = .ok (.return_, 1) := by decide +kernel
theorem dX2_become_0 : decode cX2_become 0 = .ok (.aload_n 1, 1) := by decide +kernel
theorem dX2_become_1 : decode cX2_become 1 = .ok (.getfield 9, 3) := by decide +kernel
theorem dX2_become_4 : decode cX2_become 4 = .ok (.iconst 0, 1) := by decide +kernel
theorem dX2_become_5 : decode cX2_become 5 = .ok (.aload_n 0, 1) := by decide +kernel
theorem dX2_become_6 : decode cX2_become 6 = .ok (.getfield 9, 3) := by decide +kernel
theorem dX2_become_9 : decode cX2_become 9 = .ok (.iconst 0, 1) := by decide +kernel
theorem dX2_become_10 : decode cX2_become 10 = .ok (.bipush 16, 2) := by decide +kernel
theorem dX2_become_12 : decode cX2_become 12 = .ok (.invokestatic 15, 3) := by decide +kernel
theorem dX2_become_15 : decode cX2_become 15 = .ok (.aload_n 0, 1) := by decide +kernel
theorem dX2_become_16 : decode cX2_become 16 = .ok (.aload_n 1, 1) := by decide +kernel
theorem dX2_become_17 : decode cX2_become 17 = .ok (.getfield 21, 3) := by decide +kernel
theorem dX2_become_20 : decode cX2_become 20 = .ok (.putfield 21, 3) := by decide +kernel
theorem dX2_become_23 : decode cX2_become 23 = .ok (.return_, 1) := by decide +kernel
theorem dX2_ripen_0 : decode cX2_ripen 0 = .ok (.iconst 0, 1) := by decide +kernel
theorem dX2_ripen_1 : decode cX2_ripen 1 = .ok (.istore_n 3, 1) := by decide +kernel
theorem dX2_ripen_2 : decode cX2_ripen 2 = .ok (.iload_n 3, 1) := by decide +kernel
theorem dX2_ripen_3 : decode cX2_ripen 3 = .ok (.iload_n 1, 1) := by decide +kernel
theorem dX2_ripen_4 : decode cX2_ripen 4 = .ok (.if_icmp .ge 59, 3) := by decide +kernel
theorem dX2_ripen_7 : decode cX2_ripen 7 = .ok (.iconst 0, 1) := by decide +kernel
theorem dX2_ripen_8 : decode cX2_ripen 8 = .ok (.istore 4, 2) := by decide +kernel
theorem dX2_ripen_10 : decode cX2_ripen 10 = .ok (.iload 4, 2) := by decide +kernel
theorem dX2_ripen_12 : decode cX2_ripen 12 = .ok (.bipush 16, 2) := by decide +kernel
theorem dX2_ripen_14 : decode cX2_ripen 14 = .ok (.if_icmp .ge 33, 3) := by decide +kernel
theorem dX2_ripen_17 : decode cX2_ripen 17 = .ok (.aload_n 0, 1) := by decide +kernel
theorem dX2_ripen_18 : decode cX2_ripen 18 = .ok (.getfield 9, 3) := by decide +kernel
theorem dX2_ripen_21 : decode cX2_ripen 21 = .ok (.iload 4, 2) := by decide +kernel
theorem dX2_ripen_23 : decode cX2_ripen 23 = .ok (.aload_n 2, 1) := by decide +kernel
theorem dX2_ripen_24 : decode cX2_ripen 24 = .ok (.iload 4, 2) := by decide +kernel
theorem dX2_ripen_26 : decode cX2_ripen 26 = .ok (.aload_n 0, 1) := by decide +kernel
theorem dX2_ripen_27 : decode cX2_ripen 27 = .ok (.getfield 9, 3) := by decide +kernel
theorem dX2_ripen_30 : decode cX2_ripen 30 = .ok (.iload 4, 2) := by decide +kernel
theorem dX2_ripen_32 : decode cX2_ripen 32 = .ok (.iaload, 1) := by decide +kernel
theorem dX2_ripen_33 : decode cX2_ripen 33 = .ok (.aload_n 0, 1) := by decide +kernel
theorem dX2_ripen_34 : decode cX2_ripen 34 = .ok (.getfield 21, 3) := by decide +kernel
theorem dX2_ripen_37 : decode cX2_ripen 37 = .ok (.invokevirtual 25, 3) := by decide +kernel
theorem dX2_ripen_40 : decode cX2_ripen 40 = .ok (.iastore, 1) := by decide +kernel
theorem dX2_ripen_41 : decode cX2_ripen 41 = .ok (.iinc 4 1, 3) := by decide +kernel
theorem dX2_ripen_44 : decode cX2_ripen 44 = .ok (.goto (-34), 3) := by decide +kernel
theorem dX2_ripen_47 : decode cX2_ripen 47 = .ok (.aload_n 0, 1) := by decide +kernel
theorem dX2_ripen_48 : decode cX2_ripen 48 = .ok (.dup, 1) := by decide +kernel
theorem dX2_ripen_49 : decode cX2_ripen 49 = .ok (.getfield 21, 3) := by decide +kernel
theorem dX2_ripen_52 : decode cX2_ripen 52 = .ok (.iconst 1, 1) := by decide +kernel
theorem dX2_ripen_53 : decode cX2_ripen 53 = .ok (.iadd, 1) := by decide +kernel
theorem dX2_ripen_54 : decode cX2_ripen 54 = .ok (.putfield 21, 3) := by decide +kernel
theorem dX2_ripen_57 : decode cX2_ripen 57 = .ok (.iinc 3 1, 3) := by decide +kernel
theorem dX2_ripen_60 : decode cX2_ripen 60 = .ok (.goto (-58), 3) := by decide +kernel
theorem dX2_ripen_63 : decode cX2_ripen 63 = .ok (.return_, 1) := by decide +kernel
theorem dX2_pour_0 : decode cX2_pour 0 = .ok (.aload_n 0, 1) := by decide +kernel
theorem dX2_pour_1 : decode cX2_pour 1 = .ok (.getfield 9, 3) := by decide +kernel
theorem dX2_pour_4 : decode cX2_pour 4 = .ok (.iload_n 1, 1) := by decide +kernel
theorem dX2_pour_5 : decode cX2_pour 5 = .ok (.iconst 0, 1) := by decide +kernel
theorem dX2_pour_6 : decode cX2_pour 6 = .ok (.aload_n 0, 1) := by decide +kernel
theorem dX2_pour_7 : decode cX2_pour 7 = .ok (.getfield 9, 3) := by decide +kernel
theorem dX2_pour_10 : decode cX2_pour 10 = .ok (.iload_n 1, 1) := by decide +kernel
theorem dX2_pour_11 : decode cX2_pour 11 = .ok (.iaload, 1) := by decide +kernel
theorem dX2_pour_12 : decode cX2_pour 12 = .ok (.iload_n 2, 1) := by decide +kernel
theorem dX2_pour_13 : decode cX2_pour 13 = .ok (.isub, 1) := by decide +kernel
theorem dX2_pour_14 : decode cX2_pour 14 = .ok (.invokestatic 31, 3) := by decide +kernel
theorem dX2_pour_17 : decode cX2_pour 17 = .ok (.iastore, 1) := by decide +kernel
theorem dX2_pour_18 : decode cX2_pour 18 = .ok (.return_, 1) := by decide +kernel
theorem dX2_swap_0 : decode cX2_swap 0 = .ok (.aload_n 0, 1) := by decide +kernel
theorem dX2_swap_1 : decode cX2_swap 1 = .ok (.getfield 9, 3) := by decide +kernel
theorem dX2_swap_4 : decode cX2_swap 4 = .ok (.iload_n 1, 1) := by decide +kernel
theorem dX2_swap_5 : decode cX2_swap 5 = .ok (.iaload, 1) := by decide +kernel
theorem dX2_swap_6 : decode cX2_swap 6 = .ok (.istore_n 3, 1) := by decide +kernel
theorem dX2_swap_7 : decode cX2_swap 7 = .ok (.aload_n 0, 1) := by decide +kernel
theorem dX2_swap_8 : decode cX2_swap 8 = .ok (.getfield 9, 3) := by decide +kernel
theorem dX2_swap_11 : decode cX2_swap 11 = .ok (.iload_n 1, 1) := by decide +kernel
theorem dX2_swap_12 : decode cX2_swap 12 = .ok (.aload_n 0, 1) := by decide +kernel
theorem dX2_swap_13 : decode cX2_swap 13 = .ok (.getfield 9, 3) := by decide +kernel
theorem dX2_swap_16 : decode cX2_swap 16 = .ok (.iload_n 2, 1) := by decide +kernel
theorem dX2_swap_17 : decode cX2_swap 17 = .ok (.iaload, 1) := by decide +kernel
theorem dX2_swap_18 : decode cX2_swap 18 = .ok (.iastore, 1) := by decide +kernel
theorem dX2_swap_19 : decode cX2_swap 19 = .ok (.aload_n 0, 1) := by decide +kernel
theorem dX2_swap_20 : decode cX2_swap 20 = .ok (.getfield 9, 3) := by decide +kernel
theorem dX2_swap_23 : decode cX2_swap 23 = .ok (.iload_n 2, 1) := by decide +kernel
theorem dX2_swap_24 : decode cX2_swap 24 = .ok (.iload_n 3, 1) := by decide +kernel
theorem dX2_swap_25 : decode cX2_swap 25 = .ok (.iastore, 1) := by decide +kernel
theorem dX2_swap_26 : decode cX2_swap 26 = .ok (.return_, 1) := by decide +kernel
theorem dX2_together_0 : decode cX2_together 0 = .ok (.iconst 0, 1) := by decide +kernel
theorem dX2_together_1 : decode cX2_together 1 = .ok (.istore_n 1, 1) := by decide +kernel
theorem dX2_together_2 : decode cX2_together 2 = .ok (.iconst 0, 1) := by decide +kernel
theorem dX2_together_3 : decode cX2_together 3 = .ok (.istore_n 2, 1) := by decide +kernel
theorem dX2_together_4 : decode cX2_together 4 = .ok (.iload_n 2, 1) := by decide +kernel
theorem dX2_together_5 : decode cX2_together 5 = .ok (.bipush 16, 2) := by decide +kernel
theorem dX2_together_7 : decode cX2_together 7 = .ok (.if_icmp .ge 18, 3) := by decide +kernel
theorem dX2_together_10 : decode cX2_together 10 = .ok (.iload_n 1, 1) := by decide +kernel
theorem dX2_together_11 : decode cX2_together 11 = .ok (.aload_n 0, 1) := by decide +kernel
theorem dX2_together_12 : decode cX2_together 12 = .ok (.getfield 9, 3) := by decide +kernel
theorem dX2_together_15 : decode cX2_together 15 = .ok (.iload_n 2, 1) := by decide +kernel
theorem dX2_together_16 : decode cX2_together 16 = .ok (.iaload, 1) := by decide +kernel
theorem dX2_together_17 : decode cX2_together 17 = .ok (.iadd, 1) := by decide +kernel
theorem dX2_together_18 : decode cX2_together 18 = .ok (.istore_n 1, 1) := by decide +kernel
theorem dX2_together_19 : decode cX2_together 19 = .ok (.iinc 2 1, 3) := by decide +kernel
theorem dX2_together_22 : decode cX2_together 22 = .ok (.goto (-18), 3) := by decide +kernel
theorem dX2_together_25 : decode cX2_together 25 = .ok (.iload_n 1, 1) := by decide +kernel
theorem dX2_together_26 : decode cX2_together 26 = .ok (.ireturn, 1) := by decide +kernel
theorem dX3_init_0 : decode cX3_init 0 = .ok (.aload_n 0, 1) := by decide +kernel
theorem dX3_init_1 : decode cX3_init 1 = .ok (.invokespecial 3, 3) := by decide +kernel
theorem dX3_init_4 : decode cX3_init 4 = .ok (.aload_n 0, 1) := by decide +kernel
theorem dX3_init_5 : decode cX3_init 5 = .ok (.bipush 100, 2) := by decide +kernel
theorem dX3_init_7 : decode cX3_init 7 = .ok (.newarray .char, 2) := by decide +kernel
theorem dX3_init_9 : decode cX3_init 9 = .ok (.putfield 11, 3) := by decide +kernel
theorem dX3_init_12 : decode cX3_init 12 = .ok (.aload_n 0, 1) := by decide +kernel
theorem dX3_init_13 : decode cX3_init 13 = .ok (.bipush 16, 2) := by decide +kernel
theorem dX3_init_15 : decode cX3_init 15 = .ok (.newarray .int, 2) := by decide +kernel
theorem dX3_init_17 : decode cX3_init 17 = .ok (.putfield 15, 3) := by decide +kernel
theorem dX3_init_20 : decode cX3_init 20 = .ok (.return_, 1) := by decide +kernel
theorem dX3_append_0 : decode cX3_append 0 = .ok (.aload_n 0, 1) := by decide +kernel
theorem dX3_append_1 : decode cX3_append 1 = .ok (.getfield 19, 3) := by decide +kernel
theorem dX3_append_4 : decode cX3_append 4 = .ok (.bipush 100, 2) := by decide +kernel
theorem dX3_append_6 : decode cX3_append 6 = .ok (.if_icmp .lt 5, 3) := by decide +kernel
theorem dX3_append_9 : decode cX3_append 9 = .ok (.iconst 0, 1) := by decide +kernel
theorem dX3_append_10 : decode cX3_append 10 = .ok (.ireturn, 1) := by decide +kernel
theorem dX3_append_11 : decode cX3_append 11 = .ok (.aload_n 0, 1) := by decide +kernel
theorem dX3_append_12 : decode cX3_append 12 = .ok (.getfield 11, 3) := by decide +kernel
theorem dX3_append_15 : decode cX3_append 15 = .ok (.aload_n 0, 1) := by decide +kernel
theorem dX3_append_16 : decode cX3_append 16 = .ok (.getfield 19, 3) := by decide +kernel
theorem dX3_append_19 : decode cX3_append 19 = .ok (.iload_n 1, 1) := by decide +kernel
theorem dX3_append_20 : decode cX3_append 20 = .ok (.castore, 1) := by decide +kernel
theorem dX3_append_21 : decode cX3_append 21 = .ok (.aload_n 0, 1) := by decide +kernel
theorem dX3_append_22 : decode cX3_append 22 = .ok (.dup, 1) := by decide +kernel
theorem dX3_append_23 : decode cX3_append 23 = .ok (.getfield 19, 3) := by decide +kernel
theorem dX3_append_26 : decode cX3_append 26 = .ok (.iconst 1, 1) := by decide +kernel
theorem dX3_append_27 : decode cX3_append 27 = .ok (.iadd, 1) := by decide +kernel
theorem dX3_append_28 : decode cX3_append 28 = .ok (.putfield 19, 3) := by decide +kernel
theorem dX3_append_31 : decode cX3_append 31 = .ok (.iconst 1, 1) := by decide +kernel
theorem dX3_append_32 : decode cX3_append 32 = .ok (.ireturn, 1) := by decide +kernel
theorem dX3_faultFor_0 : decode cX3_faultFor 0 = .ok (.aload_n 0, 1) := by decide +kernel
theorem dX3_faultFor_1 : decode cX3_faultFor 1 = .ok (.iconst 0, 1) := by decide +kernel
theorem dX3_faultFor_2 : decode cX3_faultFor 2 = .ok (.putfield 23, 3) := by decide +kernel
theorem dX3_faultFor_5 : decode cX3_faultFor 5 = .ok (.aload_n 0, 1) := by decide +kernel
theorem dX3_faultFor_6 : decode cX3_faultFor 6 = .ok (.iconst 0, 1) := by decide +kernel
theorem dX3_faultFor_7 : decode cX3_faultFor 7 = .ok (.putfield 26, 3) := by decide +kernel
theorem dX3_faultFor_10 : decode cX3_faultFor 10 = .ok (.aload_n 0, 1) := by decide +kernel
theorem dX3_faultFor_11 : decode cX3_faultFor 11 = .ok (.iload_n 1, 1) := by decide +kernel
theorem dX3_faultFor_12 : decode cX3_faultFor 12 = .ok (.putfield 30, 3) := by decide +kernel
theorem dX3_faultFor_15 : decode cX3_faultFor 15 = .ok (.aload_n 0, 1) := by decide +kernel
theorem dX3_faultFor_16 : decode cX3_faultFor 16 = .ok (.iload_n 2, 1) := by decide +kernel
theorem dX3_faultFor_17 : decode cX3_faultFor 17 = .ok (.putfield 33, 3) := by decide +kernel
theorem dX3_faultFor_20 : decode cX3_faultFor 20 = .ok (.aload_n 0, 1) := by decide +kernel
theorem dX3_faultFor_21 : decode cX3_faultFor 21 = .ok (.bipush 99, 2) := by decide +kernel
theorem dX3_faultFor_23 : decode cX3_faultFor 23 = .ok (.putfield 36, 3) := by decide +kernel
theorem dX3_faultFor_26 : decode cX3_faultFor 26 = .ok (.aload_n 0, 1) := by decide +kernel
theorem dX3_faultFor_27 : decode cX3_faultFor 27 = .ok (.bipush 10, 2) := by decide +kernel
theorem dX3_faultFor_29 : decode cX3_faultFor 29 = .ok (.putfield 39, 3) := by decide +kernel
theorem dX3_faultFor_32 : decode cX3_faultFor 32 = .ok (.iconst 0, 1) := by decide +kernel
theorem dX3_faultFor_33 : decode cX3_faultFor 33 = .ok (.istore_n 3, 1) := by decide +kernel
theorem dX3_faultFor_34 : decode cX3_faultFor 34 = .ok (.iload_n 3, 1) := by decide +kernel
theorem dX3_faultFor_35 : decode cX3_faultFor 35 = .ok (.bipush 16, 2) := by decide +kernel
theorem dX3_faultFor_37 : decode cX3_faultFor 37 = .ok (.if_icmp .ge 16, 3) := by decide +kernel
theorem dX3_faultFor_40 : decode cX3_faultFor 40 = .ok (.aload_n 0, 1) := by decide +kernel
theorem dX3_faultFor_41 : decode cX3_faultFor 41 = .ok (.getfield 15, 3) := by decide +kernel
theorem dX3_faultFor_44 : decode cX3_faultFor 44 = .ok (.iload_n 3, 1) := by decide +kernel
theorem dX3_faultFor_45 : decode cX3_faultFor 45 = .ok (.iconst 2, 1) := by decide +kernel
theorem dX3_faultFor_46 : decode cX3_faultFor 46 = .ok (.iastore, 1) := by decide +kernel
theorem dX3_faultFor_47 : decode cX3_faultFor 47 = .ok (.iinc 3 1, 3) := by decide +kernel
theorem dX3_faultFor_50 : decode cX3_faultFor 50 = .ok (.goto (-16), 3) := by decide +kernel
theorem dX3_faultFor_53 : decode cX3_faultFor 53 = .ok (.aload_n 0, 1) := by decide +kernel
theorem dX3_faultFor_54 : decode cX3_faultFor 54 = .ok (.invokevirtual 42, 3) := by decide +kernel
theorem dX3_faultFor_57 : decode cX3_faultFor 57 = .ok (.iconst 1, 1) := by decide +kernel
theorem dX3_faultFor_58 : decode cX3_faultFor 58 = .ok (.istore_n 3, 1) := by decide +kernel
theorem dX3_faultFor_59 : decode cX3_faultFor 59 = .ok (.iload_n 3, 1) := by decide +kernel
theorem dX3_faultFor_60 : decode cX3_faultFor 60 = .ok (.bipush 10, 2) := by decide +kernel
theorem dX3_faultFor_62 : decode cX3_faultFor 62 = .ok (.if_icmp .ge 22, 3) := by decide +kernel
theorem dX3_faultFor_65 : decode cX3_faultFor 65 = .ok (.aload_n 0, 1) := by decide +kernel
theorem dX3_faultFor_66 : decode cX3_faultFor 66 = .ok (.bipush 59, 2) := by decide +kernel
theorem dX3_faultFor_68 : decode cX3_faultFor 68 = .ok (.invokevirtual 45, 3) := by decide +kernel
theorem dX3_faultFor_71 : decode cX3_faultFor 71 = .ok (.ifCond .eq 13, 3) := by decide +kernel
theorem dX3_faultFor_74 : decode cX3_faultFor 74 = .ok (.aload_n 0, 1) := by decide +kernel
theorem dX3_faultFor_75 : decode cX3_faultFor 75 = .ok (.invokevirtual 42, 3) := by decide +kernel
theorem dX3_faultFor_78 : decode cX3_faultFor 78 = .ok (.iinc 3 1, 3) := by decide +kernel
theorem dX3_faultFor_81 : decode cX3_faultFor 81 = .ok (.goto (-22), 3) := by decide +kernel
theorem dX3_faultFor_84 : decode cX3_faultFor 84 = .ok (.aload_n 0, 1) := by decide +kernel
theorem dX3_faultFor_85 : decode cX3_faultFor 85 = .ok (.getfield 26, 3) := by decide +kernel
theorem dX3_faultFor_88 : decode cX3_faultFor 88 = .ok (.ifCond .ne 14, 3) := by decide +kernel
theorem dX3_faultFor_91 : decode cX3_faultFor 91 = .ok (.aload_n 0, 1) := by decide +kernel
theorem dX3_faultFor_92 : decode cX3_faultFor 92 = .ok (.getfield 23, 3) := by decide +kernel
theorem dX3_faultFor_95 : decode cX3_faultFor 95 = .ok (.aload_n 0, 1) := by decide +kernel
theorem dX3_faultFor_96 : decode cX3_faultFor 96 = .ok (.getfield 19, 3) := by decide +kernel
theorem dX3_faultFor_99 : decode cX3_faultFor 99 = .ok (.if_icmp .ge 10, 3) := by decide +kernel
theorem dX3_faultFor_102 : decode cX3_faultFor 102 = .ok (.aload_n 0, 1) := by decide +kernel
theorem dX3_faultFor_103 : decode cX3_faultFor 103 = .ok (.getfield 23, 3) := by decide +kernel
theorem dX3_faultFor_106 : decode cX3_faultFor 106 = .ok (.goto 4, 3) := by decide +kernel
theorem dX3_faultFor_109 : decode cX3_faultFor 109 = .ok (.iconst (-1), 1) := by decide +kernel
theorem dX3_faultFor_110 : decode cX3_faultFor 110 = .ok (.ireturn, 1) := by decide +kernel
theorem dX3_clause_0 : decode cX3_clause 0 = .ok (.aload_n 0, 1) := by decide +kernel
theorem dX3_clause_1 : decode cX3_clause 1 = .ok (.bipush 115, 2) := by decide +kernel
theorem dX3_clause_3 : decode cX3_clause 3 = .ok (.invokevirtual 45, 3) := by decide +kernel
theorem dX3_clause_6 : decode cX3_clause 6 = .ok (.ifCond .eq 18, 3) := by decide +kernel
theorem dX3_clause_9 : decode cX3_clause 9 = .ok (.aload_n 0, 1) := by decide +kernel
theorem dX3_clause_10 : decode cX3_clause 10 = .ok (.ldc 49, 2) := by decide +kernel
theorem dX3_clause_12 : decode cX3_clause 12 = .ok (.invokevirtual 51, 3) := by decide +kernel
theorem dX3_clause_15 : decode cX3_clause 15 = .ok (.aload_n 0, 1) := by decide +kernel
theorem dX3_clause_16 : decode cX3_clause 16 = .ok (.aload_n 0, 1) := by decide +kernel
theorem dX3_clause_17 : decode cX3_clause 17 = .ok (.invokevirtual 55, 3) := by decide +kernel
theorem dX3_clause_20 : decode cX3_clause 20 = .ok (.putfield 36, 3) := by decide +kernel
theorem dX3_clause_23 : decode cX3_clause 23 = .ok (.return_, 1) := by decide +kernel
theorem dX3_clause_24 : decode cX3_clause 24 = .ok (.aload_n 0, 1) := by decide +kernel
theorem dX3_clause_25 : decode cX3_clause 25 = .ok (.bipush 109, 2) := by decide +kernel
theorem dX3_clause_27 : decode cX3_clause 27 = .ok (.invokevirtual 45, 3) := by decide +kernel
theorem dX3_clause_30 : decode cX3_clause 30 = .ok (.ifCond .eq 18, 3) := by decide +kernel
theorem dX3_clause_33 : decode cX3_clause 33 = .ok (.aload_n 0, 1) := by decide +kernel
theorem dX3_clause_34 : decode cX3_clause 34 = .ok (.ldc 59, 2) := by decide +kernel
theorem dX3_clause_36 : decode cX3_clause 36 = .ok (.invokevirtual 51, 3) := by decide +kernel
theorem dX3_clause_39 : decode cX3_clause 39 = .ok (.aload_n 0, 1) := by decide +kernel
theorem dX3_clause_40 : decode cX3_clause 40 = .ok (.aload_n 0, 1) := by decide +kernel
theorem dX3_clause_41 : decode cX3_clause 41 = .ok (.invokevirtual 55, 3) := by decide +kernel
theorem dX3_clause_44 : decode cX3_clause 44 = .ok (.putfield 39, 3) := by decide +kernel
theorem dX3_clause_47 : decode cX3_clause 47 = .ok (.return_, 1) := by decide +kernel
theorem dX3_clause_48 : decode cX3_clause 48 = .ok (.aload_n 0, 1) := by decide +kernel
theorem dX3_clause_49 : decode cX3_clause 49 = .ok (.ldc 61, 2) := by decide +kernel
theorem dX3_clause_51 : decode cX3_clause 51 = .ok (.invokevirtual 51, 3) := by decide +kernel
theorem dX3_clause_54 : decode cX3_clause 54 = .ok (.aload_n 0, 1) := by decide +kernel
theorem dX3_clause_55 : decode cX3_clause 55 = .ok (.bipush 110, 2) := by decide +kernel
theorem dX3_clause_57 : decode cX3_clause 57 = .ok (.invokevirtual 45, 3) := by decide +kernel
theorem dX3_clause_60 : decode cX3_clause 60 = .ok (.istore_n 1, 1) := by decide +kernel
theorem dX3_clause_61 : decode cX3_clause 61 = .ok (.aload_n 0, 1) := by decide +kernel
theorem dX3_clause_62 : decode cX3_clause 62 = .ok (.iload_n 1, 1) := by decide +kernel
theorem dX3_clause_63 : decode cX3_clause 63 = .ok (.ifCond .eq 8, 3) := by decide +kernel
theorem dX3_clause_66 : decode cX3_clause 66 = .ok (.ldc 63, 2) := by decide +kernel
theorem dX3_clause_68 : decode cX3_clause 68 = .ok (.goto 5, 3) := by decide +kernel
theorem dX3_clause_71 : decode cX3_clause 71 = .ok (.ldc 65, 2) := by decide +kernel
theorem dX3_clause_73 : decode cX3_clause 73 = .ok (.invokevirtual 51, 3) := by decide +kernel
theorem dX3_clause_76 : decode cX3_clause 76 = .ok (.aload_n 0, 1) := by decide +kernel
theorem dX3_clause_77 : decode cX3_clause 77 = .ok (.invokevirtual 55, 3) := by decide +kernel
theorem dX3_clause_80 : decode cX3_clause 80 = .ok (.istore_n 2, 1) := by decide +kernel
theorem dX3_clause_81 : decode cX3_clause 81 = .ok (.aload_n 0, 1) := by decide +kernel
theorem dX3_clause_82 : decode cX3_clause 82 = .ok (.ldc 63, 2) := by decide +kernel
theorem dX3_clause_84 : decode cX3_clause 84 = .ok (.invokevirtual 51, 3) := by decide +kernel
theorem dX3_clause_87 : decode cX3_clause 87 = .ok (.aload_n 0, 1) := by decide +kernel
theorem dX3_clause_88 : decode cX3_clause 88 = .ok (.iconst 0, 1) := by decide +kernel
theorem dX3_clause_89 : decode cX3_clause 89 = .ok (.invokevirtual 67, 3) := by decide +kernel
theorem dX3_clause_92 : decode cX3_clause 92 = .ok (.istore_n 3, 1) := by decide +kernel
theorem dX3_clause_93 : decode cX3_clause 93 = .ok (.iconst 0, 1) := by decide +kernel
theorem dX3_clause_94 : decode cX3_clause 94 = .ok (.istore 4, 2) := by decide +kernel
theorem dX3_clause_96 : decode cX3_clause 96 = .ok (.iload 4, 2) := by decide +kernel
theorem dX3_clause_98 : decode cX3_clause 98 = .ok (.bipush 16, 2) := by decide +kernel
theorem dX3_clause_100 : decode cX3_clause 100 = .ok (.if_icmp .ge 38, 3) := by decide +kernel
theorem dX3_clause_103 : decode cX3_clause 103 = .ok (.iload_n 3, 1) := by decide +kernel
theorem dX3_clause_104 : decode cX3_clause 104 = .ok (.iconst 1, 1) := by decide +kernel
theorem dX3_clause_105 : decode cX3_clause 105 = .ok (.iload 4, 2) := by decide +kernel
theorem dX3_clause_107 : decode cX3_clause 107 = .ok (.ishl, 1) := by decide +kernel
theorem dX3_clause_108 : decode cX3_clause 108 = .ok (.iand, 1) := by decide +kernel
theorem dX3_clause_109 : decode cX3_clause 109 = .ok (.ifCond .eq 23, 3) := by decide +kernel
theorem dX3_clause_112 : decode cX3_clause 112 = .ok (.aload_n 0, 1) := by decide +kernel
theorem dX3_clause_113 : decode cX3_clause 113 = .ok (.getfield 15, 3) := by decide +kernel
theorem dX3_clause_116 : decode cX3_clause 116 = .ok (.iload 4, 2) := by decide +kernel
theorem dX3_clause_118 : decode cX3_clause 118 = .ok (.dup2, 1) := by decide +kernel
theorem dX3_clause_119 : decode cX3_clause 119 = .ok (.iaload, 1) := by decide +kernel
theorem dX3_clause_120 : decode cX3_clause 120 = .ok (.iload_n 1, 1) := by decide +kernel
theorem dX3_clause_121 : decode cX3_clause 121 = .ok (.ifCond .eq 8, 3) := by decide +kernel
theorem dX3_clause_124 : decode cX3_clause 124 = .ok (.iload_n 2, 1) := by decide +kernel
theorem dX3_clause_125 : decode cX3_clause 125 = .ok (.ineg, 1) := by decide +kernel
theorem dX3_clause_126 : decode cX3_clause 126 = .ok (.goto 4, 3) := by decide +kernel
theorem dX3_clause_129 : decode cX3_clause 129 = .ok (.iload_n 2, 1) := by decide +kernel
theorem dX3_clause_130 : decode cX3_clause 130 = .ok (.iadd, 1) := by decide +kernel
theorem dX3_clause_131 : decode cX3_clause 131 = .ok (.iastore, 1) := by decide +kernel
theorem dX3_clause_132 : decode cX3_clause 132 = .ok (.iinc 4 1, 3) := by decide +kernel
theorem dX3_clause_135 : decode cX3_clause 135 = .ok (.goto (-39), 3) := by decide +kernel
theorem dX3_clause_138 : decode cX3_clause 138 = .ok (.return_, 1) := by decide +kernel
theorem dX3_expression_0 : decode cX3_expression 0 = .ok (.iconst 0, 1) := by decide +kernel
theorem dX3_expression_1 : decode cX3_expression 1 = .ok (.istore_n 2, 1) := by decide +kernel
theorem dX3_expression_2 : decode cX3_expression 2 = .ok (.ldc 71, 2) := by decide +kernel
theorem dX3_expression_4 : decode cX3_expression 4 = .ok (.istore_n 3, 1) := by decide +kernel
theorem dX3_expression_5 : decode cX3_expression 5 = .ok (.iconst 1, 1) := by decide +kernel
theorem dX3_expression_6 : decode cX3_expression 6 = .ok (.istore 4, 2) := by decide +kernel
theorem dX3_expression_8 : decode cX3_expression 8 = .ok (.iconst 0, 1) := by decide +kernel
theorem dX3_expression_9 : decode cX3_expression 9 = .ok (.istore 5, 2) := by decide +kernel
theorem dX3_expression_11 : decode cX3_expression 11 = .ok (.iload 5, 2) := by decide +kernel
theorem dX3_expression_13 : decode cX3_expression 13 = .ok (.bipush 100, 2) := by decide +kernel
theorem dX3_expression_15 : decode cX3_expression 15 = .ok (.if_icmp .ge 50, 3) := by decide +kernel
theorem dX3_expression_18 : decode cX3_expression 18 = .ok (.iload 4, 2) := by decide +kernel
theorem dX3_expression_20 : decode cX3_expression 20 = .ok (.ifCond .eq 45, 3) := by decide +kernel
theorem dX3_expression_23 : decode cX3_expression 23 = .ok (.iload_n 3, 1) := by decide +kernel
theorem dX3_expression_24 : decode cX3_expression 24 = .ok (.aload_n 0, 1) := by decide +kernel
theorem dX3_expression_25 : decode cX3_expression 25 = .ok (.iload_n 1, 1) := by decide +kernel
theorem dX3_expression_26 : decode cX3_expression 26 = .ok (.invokevirtual 72, 3) := by decide +kernel
theorem dX3_expression_29 : decode cX3_expression 29 = .ok (.iand, 1) := by decide +kernel
theorem dX3_expression_30 : decode cX3_expression 30 = .ok (.istore_n 3, 1) := by decide +kernel
theorem dX3_expression_31 : decode cX3_expression 31 = .ok (.aload_n 0, 1) := by decide +kernel
theorem dX3_expression_32 : decode cX3_expression 32 = .ok (.bipush 38, 2) := by decide +kernel
theorem dX3_expression_34 : decode cX3_expression 34 = .ok (.invokevirtual 45, 3) := by decide +kernel
theorem dX3_expression_37 : decode cX3_expression 37 = .ok (.istore 4, 2) := by decide +kernel
theorem dX3_expression_39 : decode cX3_expression 39 = .ok (.iload 4, 2) := by decide +kernel
theorem dX3_expression_41 : decode cX3_expression 41 = .ok (.ifCond .ne 18, 3) := by decide +kernel
theorem dX3_expression_44 : decode cX3_expression 44 = .ok (.iload_n 2, 1) := by decide +kernel
theorem dX3_expression_45 : decode cX3_expression 45 = .ok (.iload_n 3, 1) := by decide +kernel
theorem dX3_expression_46 : decode cX3_expression 46 = .ok (.ior, 1) := by decide +kernel
theorem dX3_expression_47 : decode cX3_expression 47 = .ok (.istore_n 2, 1) := by decide +kernel
theorem dX3_expression_48 : decode cX3_expression 48 = .ok (.ldc 71, 2) := by decide +kernel
theorem dX3_expression_50 : decode cX3_expression 50 = .ok (.istore_n 3, 1) := by decide +kernel
theorem dX3_expression_51 : decode cX3_expression 51 = .ok (.aload_n 0, 1) := by decide +kernel
theorem dX3_expression_52 : decode cX3_expression 52 = .ok (.bipush 124, 2) := by decide +kernel
theorem dX3_expression_54 : decode cX3_expression 54 = .ok (.invokevirtual 45, 3) := by decide +kernel
theorem dX3_expression_57 : decode cX3_expression 57 = .ok (.istore 4, 2) := by decide +kernel
theorem dX3_expression_59 : decode cX3_expression 59 = .ok (.iinc 5 1, 3) := by decide +kernel
theorem dX3_expression_62 : decode cX3_expression 62 = .ok (.goto (-51), 3) := by decide +kernel
theorem dX3_expression_65 : decode cX3_expression 65 = .ok (.iload_n 2, 1) := by decide +kernel
theorem dX3_expression_66 : decode cX3_expression 66 = .ok (.ireturn, 1) := by decide +kernel
theorem dX3_factor_0 : decode cX3_factor 0 = .ok (.iload_n 1, 1) := by decide +kernel
theorem dX3_factor_1 : decode cX3_factor 1 = .ok (.iconst 4, 1) := by decide +kernel
theorem dX3_factor_2 : decode cX3_factor 2 = .ok (.if_icmp .ge 25, 3) := by decide +kernel
theorem dX3_factor_5 : decode cX3_factor 5 = .ok (.aload_n 0, 1) := by decide +kernel
theorem dX3_factor_6 : decode cX3_factor 6 = .ok (.bipush 33, 2) := by decide +kernel
theorem dX3_factor_8 : decode cX3_factor 8 = .ok (.invokevirtual 45, 3) := by decide +kernel
theorem dX3_factor_11 : decode cX3_factor 11 = .ok (.ifCond .eq 16, 3) := by decide +kernel
theorem dX3_factor_14 : decode cX3_factor 14 = .ok (.ldc 71, 2) := by decide +kernel
theorem dX3_factor_16 : decode cX3_factor 16 = .ok (.aload_n 0, 1) := by decide +kernel
theorem dX3_factor_17 : decode cX3_factor 17 = .ok (.iload_n 1, 1) := by decide +kernel
theorem dX3_factor_18 : decode cX3_factor 18 = .ok (.iconst 1, 1) := by decide +kernel
theorem dX3_factor_19 : decode cX3_factor 19 = .ok (.iadd, 1) := by decide +kernel
theorem dX3_factor_20 : decode cX3_factor 20 = .ok (.invokevirtual 72, 3) := by decide +kernel
theorem dX3_factor_23 : decode cX3_factor 23 = .ok (.iconst (-1), 1) := by decide +kernel
theorem dX3_factor_24 : decode cX3_factor 24 = .ok (.ixor, 1) := by decide +kernel
theorem dX3_factor_25 : decode cX3_factor 25 = .ok (.iand, 1) := by decide +kernel
theorem dX3_factor_26 : decode cX3_factor 26 = .ok (.ireturn, 1) := by decide +kernel
theorem dX3_factor_27 : decode cX3_factor 27 = .ok (.iload_n 1, 1) := by decide +kernel
theorem dX3_factor_28 : decode cX3_factor 28 = .ok (.iconst 4, 1) := by decide +kernel
theorem dX3_factor_29 : decode cX3_factor 29 = .ok (.if_icmp .ge 28, 3) := by decide +kernel
theorem dX3_factor_32 : decode cX3_factor 32 = .ok (.aload_n 0, 1) := by decide +kernel
theorem dX3_factor_33 : decode cX3_factor 33 = .ok (.bipush 40, 2) := by decide +kernel
theorem dX3_factor_35 : decode cX3_factor 35 = .ok (.invokevirtual 45, 3) := by decide +kernel
theorem dX3_factor_38 : decode cX3_factor 38 = .ok (.ifCond .eq 19, 3) := by decide +kernel
theorem dX3_factor_41 : decode cX3_factor 41 = .ok (.aload_n 0, 1) := by decide +kernel
theorem dX3_factor_42 : decode cX3_factor 42 = .ok (.iload_n 1, 1) := by decide +kernel
theorem dX3_factor_43 : decode cX3_factor 43 = .ok (.iconst 1, 1) := by decide +kernel
theorem dX3_factor_44 : decode cX3_factor 44 = .ok (.iadd, 1) := by decide +kernel
theorem dX3_factor_45 : decode cX3_factor 45 = .ok (.invokevirtual 67, 3) := by decide +kernel
theorem dX3_factor_48 : decode cX3_factor 48 = .ok (.istore_n 2, 1) := by decide +kernel
theorem dX3_factor_49 : decode cX3_factor 49 = .ok (.aload_n 0, 1) := by decide +kernel
theorem dX3_factor_50 : decode cX3_factor 50 = .ok (.ldc 75, 2) := by decide +kernel
theorem dX3_factor_52 : decode cX3_factor 52 = .ok (.invokevirtual 51, 3) := by decide +kernel
theorem dX3_factor_55 : decode cX3_factor 55 = .ok (.iload_n 2, 1) := by decide +kernel
theorem dX3_factor_56 : decode cX3_factor 56 = .ok (.ireturn, 1) := by decide +kernel
theorem dX3_factor_57 : decode cX3_factor 57 = .ok (.aload_n 0, 1) := by decide +kernel
theorem dX3_factor_58 : decode cX3_factor 58 = .ok (.invokevirtual 77, 3) := by decide +kernel
theorem dX3_factor_61 : decode cX3_factor 61 = .ok (.ireturn, 1) := by decide +kernel
theorem dX3_test_0 : decode cX3_test 0 = .ok (.aload_n 0, 1) := by decide +kernel
theorem dX3_test_1 : decode cX3_test 1 = .ok (.ldc 80, 2) := by decide +kernel
theorem dX3_test_3 : decode cX3_test 3 = .ok (.invokevirtual 82, 3) := by decide +kernel
theorem dX3_test_6 : decode cX3_test 6 = .ok (.istore_n 1, 1) := by decide +kernel
theorem dX3_test_7 : decode cX3_test 7 = .ok (.aload_n 0, 1) := by decide +kernel
theorem dX3_test_8 : decode cX3_test 8 = .ok (.ldc 86, 2) := by decide +kernel
theorem dX3_test_10 : decode cX3_test 10 = .ok (.invokevirtual 82, 3) := by decide +kernel
theorem dX3_test_13 : decode cX3_test 13 = .ok (.istore_n 2, 1) := by decide +kernel
theorem dX3_test_14 : decode cX3_test 14 = .ok (.aload_n 0, 1) := by decide +kernel
theorem dX3_test_15 : decode cX3_test 15 = .ok (.invokevirtual 55, 3) := by decide +kernel
theorem dX3_test_18 : decode cX3_test 18 = .ok (.istore_n 3, 1) := by decide +kernel
theorem dX3_test_19 : decode cX3_test 19 = .ok (.iconst 0, 1) := by decide +kernel
theorem dX3_test_20 : decode cX3_test 20 = .ok (.istore 4, 2) := by decide +kernel
theorem dX3_test_22 : decode cX3_test 22 = .ok (.iconst 0, 1) := by decide +kernel
theorem dX3_test_23 : decode cX3_test 23 = .ok (.istore 5, 2) := by decide +kernel
theorem dX3_test_25 : decode cX3_test 25 = .ok (.iload 5, 2) := by decide +kernel
theorem dX3_test_27 : decode cX3_test 27 = .ok (.bipush 16, 2) := by decide +kernel
theorem dX3_test_29 : decode cX3_test 29 = .ok (.if_icmp .ge 35, 3) := by decide +kernel
theorem dX3_test_32 : decode cX3_test 32 = .ok (.iconst 1, 1) := by decide +kernel
theorem dX3_test_33 : decode cX3_test 33 = .ok (.aload_n 0, 1) := by decide +kernel
theorem dX3_test_34 : decode cX3_test 34 = .ok (.iload_n 1, 1) := by decide +kernel
theorem dX3_test_35 : decode cX3_test 35 = .ok (.iload 5, 2) := by decide +kernel
theorem dX3_test_37 : decode cX3_test 37 = .ok (.invokevirtual 88, 3) := by decide +kernel
theorem dX3_test_40 : decode cX3_test 40 = .ok (.iload_n 3, 1) := by decide +kernel
theorem dX3_test_41 : decode cX3_test 41 = .ok (.invokestatic 92, 3) := by decide +kernel
theorem dX3_test_44 : decode cX3_test 44 = .ok (.iadd, 1) := by decide +kernel
theorem dX3_test_45 : decode cX3_test 45 = .ok (.iload_n 2, 1) := by decide +kernel
theorem dX3_test_46 : decode cX3_test 46 = .ok (.if_icmp .ne 12, 3) := by decide +kernel
theorem dX3_test_49 : decode cX3_test 49 = .ok (.iload 4, 2) := by decide +kernel
theorem dX3_test_51 : decode cX3_test 51 = .ok (.iconst 1, 1) := by decide +kernel
theorem dX3_test_52 : decode cX3_test 52 = .ok (.iload 5, 2) := by decide +kernel
theorem dX3_test_54 : decode cX3_test 54 = .ok (.ishl, 1) := by decide +kernel
theorem dX3_test_55 : decode cX3_test 55 = .ok (.ior, 1) := by decide +kernel
theorem dX3_test_56 : decode cX3_test 56 = .ok (.istore 4, 2) := by decide +kernel
theorem dX3_test_58 : decode cX3_test 58 = .ok (.iinc 5 1, 3) := by decide +kernel
theorem dX3_test_61 : decode cX3_test 61 = .ok (.goto (-36), 3) := by decide +kernel
theorem dX3_test_64 : decode cX3_test 64 = .ok (.iload 4, 2) := by decide +kernel
theorem dX3_test_66 : decode cX3_test 66 = .ok (.ireturn, 1) := by decide +kernel
theorem dX3_valueOf_0 : decode cX3_valueOf 0 = .ok (.iload_n 2, 1) := by decide +kernel
theorem dX3_valueOf_1 : decode cX3_valueOf 1 = .ok (.invokestatic 97, 3) := by decide +kernel
theorem dX3_valueOf_4 : decode cX3_valueOf 4 = .ok (.istore_n 3, 1) := by decide +kernel
theorem dX3_valueOf_5 : decode cX3_valueOf 5 = .ok (.iload_n 2, 1) := by decide +kernel
theorem dX3_valueOf_6 : decode cX3_valueOf 6 = .ok (.iconst 4, 1) := by decide +kernel
theorem dX3_valueOf_7 : decode cX3_valueOf 7 = .ok (.irem, 1) := by decide +kernel
theorem dX3_valueOf_8 : decode cX3_valueOf 8 = .ok (.istore 4, 2) := by decide +kernel
theorem dX3_valueOf_10 : decode cX3_valueOf 10 = .ok (.iload_n 1, 1) := by decide +kernel
theorem dX3_valueOf_11 : decode cX3_valueOf 11 = .ok (.tableswitch 71 0 4 #[33, 35, 37, 40, 45], 33) := by decide +kernel
theorem dX3_valueOf_44 : decode cX3_valueOf 44 = .ok (.iload_n 2, 1) := by decide +kernel
theorem dX3_valueOf_45 : decode cX3_valueOf 45 = .ok (.ireturn, 1) := by decide +kernel
theorem dX3_valueOf_46 : decode cX3_valueOf 46 = .ok (.iload_n 3, 1) := by decide +kernel
theorem dX3_valueOf_47 : decode cX3_valueOf 47 = .ok (.ireturn, 1) := by decide +kernel
theorem dX3_valueOf_48 : decode cX3_valueOf 48 = .ok (.iload 4, 2) := by decide +kernel
theorem dX3_valueOf_50 : decode cX3_valueOf 50 = .ok (.ireturn, 1) := by decide +kernel
theorem dX3_valueOf_51 : decode cX3_valueOf 51 = .ok (.aload_n 0, 1) := by decide +kernel
theorem dX3_valueOf_52 : decode cX3_valueOf 52 = .ok (.getfield 30, 3) := by decide +kernel
theorem dX3_valueOf_55 : decode cX3_valueOf 55 = .ok (.ireturn, 1) := by decide +kernel
theorem dX3_valueOf_56 : decode cX3_valueOf 56 = .ok (.iload_n 3, 1) := by decide +kernel
theorem dX3_valueOf_57 : decode cX3_valueOf 57 = .ok (.ifCond .eq 19, 3) := by decide +kernel
theorem dX3_valueOf_60 : decode cX3_valueOf 60 = .ok (.iload_n 3, 1) := by decide +kernel
theorem dX3_valueOf_61 : decode cX3_valueOf 61 = .ok (.iconst 3, 1) := by decide +kernel
theorem dX3_valueOf_62 : decode cX3_valueOf 62 = .ok (.if_icmp .eq 14, 3) := by decide +kernel
theorem dX3_valueOf_65 : decode cX3_valueOf 65 = .ok (.iload 4, 2) := by decide +kernel
theorem dX3_valueOf_67 : decode cX3_valueOf 67 = .ok (.ifCond .eq 9, 3) := by decide +kernel
theorem dX3_valueOf_70 : decode cX3_valueOf 70 = .ok (.iload 4, 2) := by decide +kernel
theorem dX3_valueOf_72 : decode cX3_valueOf 72 = .ok (.iconst 3, 1) := by decide +kernel
theorem dX3_valueOf_73 : decode cX3_valueOf 73 = .ok (.if_icmp .ne 7, 3) := by decide +kernel
theorem dX3_valueOf_76 : decode cX3_valueOf 76 = .ok (.iconst 1, 1) := by decide +kernel
theorem dX3_valueOf_77 : decode cX3_valueOf 77 = .ok (.goto 4, 3) := by decide +kernel
theorem dX3_valueOf_80 : decode cX3_valueOf 80 = .ok (.iconst 0, 1) := by decide +kernel
theorem dX3_valueOf_81 : decode cX3_valueOf 81 = .ok (.ireturn, 1) := by decide +kernel
theorem dX3_valueOf_82 : decode cX3_valueOf 82 = .ok (.aload_n 0, 1) := by decide +kernel
theorem dX3_valueOf_83 : decode cX3_valueOf 83 = .ok (.getfield 33, 3) := by decide +kernel
theorem dX3_valueOf_86 : decode cX3_valueOf 86 = .ok (.ireturn, 1) := by decide +kernel
theorem dX3_takes_0 : decode cX3_takes 0 = .ok (.aload_n 0, 1) := by decide +kernel
theorem dX3_takes_1 : decode cX3_takes 1 = .ok (.getfield 26, 3) := by decide +kernel
theorem dX3_takes_4 : decode cX3_takes 4 = .ok (.ifCond .ne 27, 3) := by decide +kernel
theorem dX3_takes_7 : decode cX3_takes 7 = .ok (.aload_n 0, 1) := by decide +kernel
theorem dX3_takes_8 : decode cX3_takes 8 = .ok (.getfield 23, 3) := by decide +kernel
theorem dX3_takes_11 : decode cX3_takes 11 = .ok (.aload_n 0, 1) := by decide +kernel
theorem dX3_takes_12 : decode cX3_takes 12 = .ok (.getfield 19, 3) := by decide +kernel
theorem dX3_takes_15 : decode cX3_takes 15 = .ok (.if_icmp .ge 16, 3) := by decide +kernel
theorem dX3_takes_18 : decode cX3_takes 18 = .ok (.aload_n 0, 1) := by decide +kernel
theorem dX3_takes_19 : decode cX3_takes 19 = .ok (.getfield 11, 3) := by decide +kernel
theorem dX3_takes_22 : decode cX3_takes 22 = .ok (.aload_n 0, 1) := by decide +kernel
theorem dX3_takes_23 : decode cX3_takes 23 = .ok (.getfield 23, 3) := by decide +kernel
theorem dX3_takes_26 : decode cX3_takes 26 = .ok (.caload, 1) := by decide +kernel
theorem dX3_takes_27 : decode cX3_takes 27 = .ok (.iload_n 1, 1) := by decide +kernel
theorem dX3_takes_28 : decode cX3_takes 28 = .ok (.if_icmp .eq 5, 3) := by decide +kernel
theorem dX3_takes_31 : decode cX3_takes 31 = .ok (.iconst 0, 1) := by decide +kernel
theorem dX3_takes_32 : decode cX3_takes 32 = .ok (.ireturn, 1) := by decide +kernel
theorem dX3_takes_33 : decode cX3_takes 33 = .ok (.aload_n 0, 1) := by decide +kernel
theorem dX3_takes_34 : decode cX3_takes 34 = .ok (.dup, 1) := by decide +kernel
theorem dX3_takes_35 : decode cX3_takes 35 = .ok (.getfield 23, 3) := by decide +kernel
theorem dX3_takes_38 : decode cX3_takes 38 = .ok (.iconst 1, 1) := by decide +kernel
theorem dX3_takes_39 : decode cX3_takes 39 = .ok (.iadd, 1) := by decide +kernel
theorem dX3_takes_40 : decode cX3_takes 40 = .ok (.putfield 23, 3) := by decide +kernel
theorem dX3_takes_43 : decode cX3_takes 43 = .ok (.iconst 1, 1) := by decide +kernel
theorem dX3_takes_44 : decode cX3_takes 44 = .ok (.ireturn, 1) := by decide +kernel
theorem dX3_expect_0 : decode cX3_expect 0 = .ok (.iconst 0, 1) := by decide +kernel
theorem dX3_expect_1 : decode cX3_expect 1 = .ok (.istore_n 2, 1) := by decide +kernel
theorem dX3_expect_2 : decode cX3_expect 2 = .ok (.iload_n 2, 1) := by decide +kernel
theorem dX3_expect_3 : decode cX3_expect 3 = .ok (.aload_n 1, 1) := by decide +kernel
theorem dX3_expect_4 : decode cX3_expect 4 = .ok (.invokevirtual 100, 3) := by decide +kernel
theorem dX3_expect_7 : decode cX3_expect 7 = .ok (.if_icmp .ge 26, 3) := by decide +kernel
theorem dX3_expect_10 : decode cX3_expect 10 = .ok (.aload_n 0, 1) := by decide +kernel
theorem dX3_expect_11 : decode cX3_expect 11 = .ok (.aload_n 1, 1) := by decide +kernel
theorem dX3_expect_12 : decode cX3_expect 12 = .ok (.iload_n 2, 1) := by decide +kernel
theorem dX3_expect_13 : decode cX3_expect 13 = .ok (.invokevirtual 104, 3) := by decide +kernel
theorem dX3_expect_16 : decode cX3_expect 16 = .ok (.invokevirtual 45, 3) := by decide +kernel
theorem dX3_expect_19 : decode cX3_expect 19 = .ok (.ifCond .ne 8, 3) := by decide +kernel
theorem dX3_expect_22 : decode cX3_expect 22 = .ok (.aload_n 0, 1) := by decide +kernel
theorem dX3_expect_23 : decode cX3_expect 23 = .ok (.iconst 1, 1) := by decide +kernel
theorem dX3_expect_24 : decode cX3_expect 24 = .ok (.putfield 26, 3) := by decide +kernel
theorem dX3_expect_27 : decode cX3_expect 27 = .ok (.iinc 2 1, 3) := by decide +kernel
theorem dX3_expect_30 : decode cX3_expect 30 = .ok (.goto (-28), 3) := by decide +kernel
theorem dX3_expect_33 : decode cX3_expect 33 = .ok (.return_, 1) := by decide +kernel
theorem dX3_oneOf_0 : decode cX3_oneOf 0 = .ok (.aload_n 0, 1) := by decide +kernel
theorem dX3_oneOf_1 : decode cX3_oneOf 1 = .ok (.getfield 26, 3) := by decide +kernel
theorem dX3_oneOf_4 : decode cX3_oneOf 4 = .ok (.ifCond .ne 14, 3) := by decide +kernel
theorem dX3_oneOf_7 : decode cX3_oneOf 7 = .ok (.aload_n 0, 1) := by decide +kernel
theorem dX3_oneOf_8 : decode cX3_oneOf 8 = .ok (.getfield 23, 3) := by decide +kernel
theorem dX3_oneOf_11 : decode cX3_oneOf 11 = .ok (.aload_n 0, 1) := by decide +kernel
theorem dX3_oneOf_12 : decode cX3_oneOf 12 = .ok (.getfield 19, 3) := by decide +kernel
theorem dX3_oneOf_15 : decode cX3_oneOf 15 = .ok (.if_icmp .lt 7, 3) := by decide +kernel
theorem dX3_oneOf_18 : decode cX3_oneOf 18 = .ok (.iconst (-1), 1) := by decide +kernel
theorem dX3_oneOf_19 : decode cX3_oneOf 19 = .ok (.goto 16, 3) := by decide +kernel
theorem dX3_oneOf_22 : decode cX3_oneOf 22 = .ok (.aload_n 1, 1) := by decide +kernel
theorem dX3_oneOf_23 : decode cX3_oneOf 23 = .ok (.aload_n 0, 1) := by decide +kernel
theorem dX3_oneOf_24 : decode cX3_oneOf 24 = .ok (.getfield 11, 3) := by decide +kernel
theorem dX3_oneOf_27 : decode cX3_oneOf 27 = .ok (.aload_n 0, 1) := by decide +kernel
theorem dX3_oneOf_28 : decode cX3_oneOf 28 = .ok (.getfield 23, 3) := by decide +kernel
theorem dX3_oneOf_31 : decode cX3_oneOf 31 = .ok (.caload, 1) := by decide +kernel
theorem dX3_oneOf_32 : decode cX3_oneOf 32 = .ok (.invokevirtual 108, 3) := by decide +kernel
theorem dX3_oneOf_35 : decode cX3_oneOf 35 = .ok (.istore_n 2, 1) := by decide +kernel
theorem dX3_oneOf_36 : decode cX3_oneOf 36 = .ok (.iload_n 2, 1) := by decide +kernel
theorem dX3_oneOf_37 : decode cX3_oneOf 37 = .ok (.ifCond .ge 11, 3) := by decide +kernel
theorem dX3_oneOf_40 : decode cX3_oneOf 40 = .ok (.aload_n 0, 1) := by decide +kernel
theorem dX3_oneOf_41 : decode cX3_oneOf 41 = .ok (.iconst 1, 1) := by decide +kernel
theorem dX3_oneOf_42 : decode cX3_oneOf 42 = .ok (.putfield 26, 3) := by decide +kernel
theorem dX3_oneOf_45 : decode cX3_oneOf 45 = .ok (.goto 13, 3) := by decide +kernel
theorem dX3_oneOf_48 : decode cX3_oneOf 48 = .ok (.aload_n 0, 1) := by decide +kernel
theorem dX3_oneOf_49 : decode cX3_oneOf 49 = .ok (.dup, 1) := by decide +kernel
theorem dX3_oneOf_50 : decode cX3_oneOf 50 = .ok (.getfield 23, 3) := by decide +kernel
theorem dX3_oneOf_53 : decode cX3_oneOf 53 = .ok (.iconst 1, 1) := by decide +kernel
theorem dX3_oneOf_54 : decode cX3_oneOf 54 = .ok (.iadd, 1) := by decide +kernel
theorem dX3_oneOf_55 : decode cX3_oneOf 55 = .ok (.putfield 23, 3) := by decide +kernel
theorem dX3_oneOf_58 : decode cX3_oneOf 58 = .ok (.iload_n 2, 1) := by decide +kernel
theorem dX3_oneOf_59 : decode cX3_oneOf 59 = .ok (.ireturn, 1) := by decide +kernel
theorem dX3_number_0 : decode cX3_number 0 = .ok (.iconst 0, 1) := by decide +kernel
theorem dX3_number_1 : decode cX3_number 1 = .ok (.istore_n 1, 1) := by decide +kernel
theorem dX3_number_2 : decode cX3_number 2 = .ok (.iconst 0, 1) := by decide +kernel
theorem dX3_number_3 : decode cX3_number 3 = .ok (.istore_n 2, 1) := by decide +kernel
theorem dX3_number_4 : decode cX3_number 4 = .ok (.iconst 0, 1) := by decide +kernel
theorem dX3_number_5 : decode cX3_number 5 = .ok (.istore_n 3, 1) := by decide +kernel
theorem dX3_number_6 : decode cX3_number 6 = .ok (.iload_n 3, 1) := by decide +kernel
theorem dX3_number_7 : decode cX3_number 7 = .ok (.iconst 2, 1) := by decide +kernel
theorem dX3_number_8 : decode cX3_number 8 = .ok (.if_icmp .ge 86, 3) := by decide +kernel
theorem dX3_number_11 : decode cX3_number 11 = .ok (.aload_n 0, 1) := by decide +kernel
theorem dX3_number_12 : decode cX3_number 12 = .ok (.getfield 26, 3) := by decide +kernel
theorem dX3_number_15 : decode cX3_number 15 = .ok (.ifCond .ne 73, 3) := by decide +kernel
theorem dX3_number_18 : decode cX3_number 18 = .ok (.aload_n 0, 1) := by decide +kernel
theorem dX3_number_19 : decode cX3_number 19 = .ok (.getfield 23, 3) := by decide +kernel
theorem dX3_number_22 : decode cX3_number 22 = .ok (.aload_n 0, 1) := by decide +kernel
theorem dX3_number_23 : decode cX3_number 23 = .ok (.getfield 19, 3) := by decide +kernel
theorem dX3_number_26 : decode cX3_number 26 = .ok (.if_icmp .ge 62, 3) := by decide +kernel
theorem dX3_number_29 : decode cX3_number 29 = .ok (.aload_n 0, 1) := by decide +kernel
theorem dX3_number_30 : decode cX3_number 30 = .ok (.getfield 11, 3) := by decide +kernel
theorem dX3_number_33 : decode cX3_number 33 = .ok (.aload_n 0, 1) := by decide +kernel
theorem dX3_number_34 : decode cX3_number 34 = .ok (.getfield 23, 3) := by decide +kernel
theorem dX3_number_37 : decode cX3_number 37 = .ok (.caload, 1) := by decide +kernel
theorem dX3_number_38 : decode cX3_number 38 = .ok (.bipush 48, 2) := by decide +kernel
theorem dX3_number_40 : decode cX3_number 40 = .ok (.if_icmp .lt 48, 3) := by decide +kernel
theorem dX3_number_43 : decode cX3_number 43 = .ok (.aload_n 0, 1) := by decide +kernel
theorem dX3_number_44 : decode cX3_number 44 = .ok (.getfield 11, 3) := by decide +kernel
theorem dX3_number_47 : decode cX3_number 47 = .ok (.aload_n 0, 1) := by decide +kernel
theorem dX3_number_48 : decode cX3_number 48 = .ok (.getfield 23, 3) := by decide +kernel
theorem dX3_number_51 : decode cX3_number 51 = .ok (.caload, 1) := by decide +kernel
theorem dX3_number_52 : decode cX3_number 52 = .ok (.bipush 57, 2) := by decide +kernel
theorem dX3_number_54 : decode cX3_number 54 = .ok (.if_icmp .gt 34, 3) := by decide +kernel
theorem dX3_number_57 : decode cX3_number 57 = .ok (.bipush 10, 2) := by decide +kernel
theorem dX3_number_59 : decode cX3_number 59 = .ok (.iload_n 1, 1) := by decide +kernel
theorem dX3_number_60 : decode cX3_number 60 = .ok (.imul, 1) := by decide +kernel
theorem dX3_number_61 : decode cX3_number 61 = .ok (.aload_n 0, 1) := by decide +kernel
theorem dX3_number_62 : decode cX3_number 62 = .ok (.getfield 11, 3) := by decide +kernel
theorem dX3_number_65 : decode cX3_number 65 = .ok (.aload_n 0, 1) := by decide +kernel
theorem dX3_number_66 : decode cX3_number 66 = .ok (.getfield 23, 3) := by decide +kernel
theorem dX3_number_69 : decode cX3_number 69 = .ok (.caload, 1) := by decide +kernel
theorem dX3_number_70 : decode cX3_number 70 = .ok (.iadd, 1) := by decide +kernel
theorem dX3_number_71 : decode cX3_number 71 = .ok (.bipush 48, 2) := by decide +kernel
theorem dX3_number_73 : decode cX3_number 73 = .ok (.isub, 1) := by decide +kernel
theorem dX3_number_74 : decode cX3_number 74 = .ok (.istore_n 1, 1) := by decide +kernel
theorem dX3_number_75 : decode cX3_number 75 = .ok (.aload_n 0, 1) := by decide +kernel
theorem dX3_number_76 : decode cX3_number 76 = .ok (.dup, 1) := by decide +kernel
theorem dX3_number_77 : decode cX3_number 77 = .ok (.getfield 23, 3) := by decide +kernel
theorem dX3_number_80 : decode cX3_number 80 = .ok (.iconst 1, 1) := by decide +kernel
theorem dX3_number_81 : decode cX3_number 81 = .ok (.iadd, 1) := by decide +kernel
theorem dX3_number_82 : decode cX3_number 82 = .ok (.putfield 23, 3) := by decide +kernel
theorem dX3_number_85 : decode cX3_number 85 = .ok (.iinc 2 1, 3) := by decide +kernel
theorem dX3_number_88 : decode cX3_number 88 = .ok (.iinc 3 1, 3) := by decide +kernel
theorem dX3_number_91 : decode cX3_number 91 = .ok (.goto (-85), 3) := by decide +kernel
theorem dX3_number_94 : decode cX3_number 94 = .ok (.iload_n 2, 1) := by decide +kernel
theorem dX3_number_95 : decode cX3_number 95 = .ok (.ifCond .ne 8, 3) := by decide +kernel
theorem dX3_number_98 : decode cX3_number 98 = .ok (.aload_n 0, 1) := by decide +kernel
theorem dX3_number_99 : decode cX3_number 99 = .ok (.iconst 1, 1) := by decide +kernel
theorem dX3_number_100 : decode cX3_number 100 = .ok (.putfield 26, 3) := by decide +kernel
theorem dX3_number_103 : decode cX3_number 103 = .ok (.iload_n 1, 1) := by decide +kernel
theorem dX3_number_104 : decode cX3_number 104 = .ok (.ireturn, 1) := by decide +kernel
theorem dX4_init_0 : decode cX4_init 0 = .ok (.aload_n 0, 1) := by decide +kernel
theorem dX4_init_1 : decode cX4_init 1 = .ok (.invokespecial 3, 3) := by decide +kernel
theorem dX4_init_4 : decode cX4_init 4 = .ok (.aload_n 0, 1) := by decide +kernel
theorem dX4_init_5 : decode cX4_init 5 = .ok (.iload_n 1, 1) := by decide +kernel
theorem dX4_init_6 : decode cX4_init 6 = .ok (.putfield 9, 3) := by decide +kernel
theorem dX4_init_9 : decode cX4_init 9 = .ok (.aload_n 0, 1) := by decide +kernel
theorem dX4_init_10 : decode cX4_init 10 = .ok (.iload_n 1, 1) := by decide +kernel
theorem dX4_init_11 : decode cX4_init 11 = .ok (.newarray .int, 2) := by decide +kernel
theorem dX4_init_13 : decode cX4_init 13 = .ok (.putfield 15, 3) := by decide +kernel
theorem dX4_init_16 : decode cX4_init 16 = .ok (.aload_n 0, 1) := by decide +kernel
theorem dX4_init_17 : decode cX4_init 17 = .ok (.iload_n 1, 1) := by decide +kernel
theorem dX4_init_18 : decode cX4_init 18 = .ok (.newarray .int, 2) := by decide +kernel
theorem dX4_init_20 : decode cX4_init 20 = .ok (.putfield 19, 3) := by decide +kernel
theorem dX4_init_23 : decode cX4_init 23 = .ok (.aload_n 0, 1) := by decide +kernel
theorem dX4_init_24 : decode cX4_init 24 = .ok (.iload_n 1, 1) := by decide +kernel
theorem dX4_init_25 : decode cX4_init 25 = .ok (.newarray .int, 2) := by decide +kernel
theorem dX4_init_27 : decode cX4_init 27 = .ok (.putfield 22, 3) := by decide +kernel
theorem dX4_init_30 : decode cX4_init 30 = .ok (.return_, 1) := by decide +kernel
theorem dX4_empty_0 : decode cX4_empty 0 = .ok (.aload_n 0, 1) := by decide +kernel
theorem dX4_empty_1 : decode cX4_empty 1 = .ok (.iconst 0, 1) := by decide +kernel
theorem dX4_empty_2 : decode cX4_empty 2 = .ok (.putfield 25, 3) := by decide +kernel
theorem dX4_empty_5 : decode cX4_empty 5 = .ok (.iconst 0, 1) := by decide +kernel
theorem dX4_empty_6 : decode cX4_empty 6 = .ok (.ireturn, 1) := by decide +kernel
theorem dX4_append_0 : decode cX4_append 0 = .ok (.aload_n 0, 1) := by decide +kernel
theorem dX4_append_1 : decode cX4_append 1 = .ok (.getfield 25, 3) := by decide +kernel
theorem dX4_append_4 : decode cX4_append 4 = .ok (.aload_n 0, 1) := by decide +kernel
theorem dX4_append_5 : decode cX4_append 5 = .ok (.getfield 9, 3) := by decide +kernel
theorem dX4_append_8 : decode cX4_append 8 = .ok (.if_icmp .lt 6, 3) := by decide +kernel
theorem dX4_append_11 : decode cX4_append 11 = .ok (.bipush (-4), 2) := by decide +kernel
theorem dX4_append_13 : decode cX4_append 13 = .ok (.ireturn, 1) := by decide +kernel
theorem dX4_append_14 : decode cX4_append 14 = .ok (.aload_n 0, 1) := by decide +kernel
theorem dX4_append_15 : decode cX4_append 15 = .ok (.getfield 15, 3) := by decide +kernel
theorem dX4_append_18 : decode cX4_append 18 = .ok (.aload_n 0, 1) := by decide +kernel
theorem dX4_append_19 : decode cX4_append 19 = .ok (.getfield 25, 3) := by decide +kernel
theorem dX4_append_22 : decode cX4_append 22 = .ok (.iload_n 1, 1) := by decide +kernel
theorem dX4_append_23 : decode cX4_append 23 = .ok (.iastore, 1) := by decide +kernel
theorem dX4_append_24 : decode cX4_append 24 = .ok (.aload_n 0, 1) := by decide +kernel
theorem dX4_append_25 : decode cX4_append 25 = .ok (.getfield 19, 3) := by decide +kernel
theorem dX4_append_28 : decode cX4_append 28 = .ok (.aload_n 0, 1) := by decide +kernel
theorem dX4_append_29 : decode cX4_append 29 = .ok (.getfield 25, 3) := by decide +kernel
theorem dX4_append_32 : decode cX4_append 32 = .ok (.iload_n 2, 1) := by decide +kernel
theorem dX4_append_33 : decode cX4_append 33 = .ok (.iastore, 1) := by decide +kernel
theorem dX4_append_34 : decode cX4_append 34 = .ok (.aload_n 0, 1) := by decide +kernel
theorem dX4_append_35 : decode cX4_append 35 = .ok (.getfield 22, 3) := by decide +kernel
theorem dX4_append_38 : decode cX4_append 38 = .ok (.aload_n 0, 1) := by decide +kernel
theorem dX4_append_39 : decode cX4_append 39 = .ok (.getfield 25, 3) := by decide +kernel
theorem dX4_append_42 : decode cX4_append 42 = .ok (.iload_n 3, 1) := by decide +kernel
theorem dX4_append_43 : decode cX4_append 43 = .ok (.iastore, 1) := by decide +kernel
theorem dX4_append_44 : decode cX4_append 44 = .ok (.aload_n 0, 1) := by decide +kernel
theorem dX4_append_45 : decode cX4_append 45 = .ok (.dup, 1) := by decide +kernel
theorem dX4_append_46 : decode cX4_append 46 = .ok (.getfield 25, 3) := by decide +kernel
theorem dX4_append_49 : decode cX4_append 49 = .ok (.iconst 1, 1) := by decide +kernel
theorem dX4_append_50 : decode cX4_append 50 = .ok (.iadd, 1) := by decide +kernel
theorem dX4_append_51 : decode cX4_append 51 = .ok (.putfield 25, 3) := by decide +kernel
theorem dX4_append_54 : decode cX4_append 54 = .ok (.aload_n 0, 1) := by decide +kernel
theorem dX4_append_55 : decode cX4_append 55 = .ok (.getfield 25, 3) := by decide +kernel
theorem dX4_append_58 : decode cX4_append 58 = .ok (.ireturn, 1) := by decide +kernel
theorem dX4_copy_0 : decode cX4_copy 0 = .ok (.aload_n 0, 1) := by decide +kernel
theorem dX4_copy_1 : decode cX4_copy 1 = .ok (.aload_n 0, 1) := by decide +kernel
theorem dX4_copy_2 : decode cX4_copy 2 = .ok (.getfield 9, 3) := by decide +kernel
theorem dX4_copy_5 : decode cX4_copy 5 = .ok (.aload_n 1, 1) := by decide +kernel
theorem dX4_copy_6 : decode cX4_copy 6 = .ok (.getfield 25, 3) := by decide +kernel
theorem dX4_copy_9 : decode cX4_copy 9 = .ok (.invokestatic 28, 3) := by decide +kernel
theorem dX4_copy_12 : decode cX4_copy 12 = .ok (.putfield 25, 3) := by decide +kernel
theorem dX4_copy_15 : decode cX4_copy 15 = .ok (.aload_n 1, 1) := by decide +kernel
theorem dX4_copy_16 : decode cX4_copy 16 = .ok (.getfield 15, 3) := by decide +kernel
theorem dX4_copy_19 : decode cX4_copy 19 = .ok (.iconst 0, 1) := by decide +kernel
theorem dX4_copy_20 : decode cX4_copy 20 = .ok (.aload_n 0, 1) := by decide +kernel
theorem dX4_copy_21 : decode cX4_copy 21 = .ok (.getfield 15, 3) := by decide +kernel
theorem dX4_copy_24 : decode cX4_copy 24 = .ok (.iconst 0, 1) := by decide +kernel
theorem dX4_copy_25 : decode cX4_copy 25 = .ok (.aload_n 0, 1) := by decide +kernel
theorem dX4_copy_26 : decode cX4_copy 26 = .ok (.getfield 25, 3) := by decide +kernel
theorem dX4_copy_29 : decode cX4_copy 29 = .ok (.invokestatic 34, 3) := by decide +kernel
theorem dX4_copy_32 : decode cX4_copy 32 = .ok (.aload_n 1, 1) := by decide +kernel
theorem dX4_copy_33 : decode cX4_copy 33 = .ok (.getfield 19, 3) := by decide +kernel
theorem dX4_copy_36 : decode cX4_copy 36 = .ok (.iconst 0, 1) := by decide +kernel
theorem dX4_copy_37 : decode cX4_copy 37 = .ok (.aload_n 0, 1) := by decide +kernel
theorem dX4_copy_38 : decode cX4_copy 38 = .ok (.getfield 19, 3) := by decide +kernel
theorem dX4_copy_41 : decode cX4_copy 41 = .ok (.iconst 0, 1) := by decide +kernel
theorem dX4_copy_42 : decode cX4_copy 42 = .ok (.aload_n 0, 1) := by decide +kernel
theorem dX4_copy_43 : decode cX4_copy 43 = .ok (.getfield 25, 3) := by decide +kernel
theorem dX4_copy_46 : decode cX4_copy 46 = .ok (.invokestatic 34, 3) := by decide +kernel
theorem dX4_copy_49 : decode cX4_copy 49 = .ok (.aload_n 1, 1) := by decide +kernel
theorem dX4_copy_50 : decode cX4_copy 50 = .ok (.getfield 22, 3) := by decide +kernel
theorem dX4_copy_53 : decode cX4_copy 53 = .ok (.iconst 0, 1) := by decide +kernel
theorem dX4_copy_54 : decode cX4_copy 54 = .ok (.aload_n 0, 1) := by decide +kernel
theorem dX4_copy_55 : decode cX4_copy 55 = .ok (.getfield 22, 3) := by decide +kernel
theorem dX4_copy_58 : decode cX4_copy 58 = .ok (.iconst 0, 1) := by decide +kernel
theorem dX4_copy_59 : decode cX4_copy 59 = .ok (.aload_n 0, 1) := by decide +kernel
theorem dX4_copy_60 : decode cX4_copy 60 = .ok (.getfield 25, 3) := by decide +kernel
theorem dX4_copy_63 : decode cX4_copy 63 = .ok (.invokestatic 34, 3) := by decide +kernel
theorem dX4_copy_66 : decode cX4_copy 66 = .ok (.return_, 1) := by decide +kernel
theorem dX5_init_0 : decode cX5_init 0 = .ok (.aload_n 0, 1) := by decide +kernel
theorem dX5_init_1 : decode cX5_init 1 = .ok (.invokespecial 3, 3) := by decide +kernel
theorem dX5_init_4 : decode cX5_init 4 = .ok (.aload_n 0, 1) := by decide +kernel
theorem dX5_init_5 : decode cX5_init 5 = .ok (.new 9, 3) := by decide +kernel
theorem dX5_init_8 : decode cX5_init 8 = .ok (.dup, 1) := by decide +kernel
theorem dX5_init_9 : decode cX5_init 9 = .ok (.invokespecial 11, 3) := by decide +kernel
theorem dX5_init_12 : decode cX5_init 12 = .ok (.putfield 12, 3) := by decide +kernel
theorem dX5_init_15 : decode cX5_init 15 = .ok (.aload_n 0, 1) := by decide +kernel
theorem dX5_init_16 : decode cX5_init 16 = .ok (.iconst 5, 1) := by decide +kernel
theorem dX5_init_17 : decode cX5_init 17 = .ok (.anewarray 18, 3) := by decide +kernel
theorem dX5_init_20 : decode cX5_init 20 = .ok (.putfield 20, 3) := by decide +kernel
theorem dX5_init_23 : decode cX5_init 23 = .ok (.aload_n 0, 1) := by decide +kernel
theorem dX5_init_24 : decode cX5_init 24 = .ok (.new 24, 3) := by decide +kernel
theorem dX5_init_27 : decode cX5_init 27 = .ok (.dup, 1) := by decide +kernel
theorem dX5_init_28 : decode cX5_init 28 = .ok (.iconst 5, 1) := by decide +kernel
theorem dX5_init_29 : decode cX5_init 29 = .ok (.invokespecial 26, 3) := by decide +kernel
theorem dX5_init_32 : decode cX5_init 32 = .ok (.putfield 29, 3) := by decide +kernel
theorem dX5_init_35 : decode cX5_init 35 = .ok (.aload_n 0, 1) := by decide +kernel
theorem dX5_init_36 : decode cX5_init 36 = .ok (.new 24, 3) := by decide +kernel
theorem dX5_init_39 : decode cX5_init 39 = .ok (.dup, 1) := by decide +kernel
theorem dX5_init_40 : decode cX5_init 40 = .ok (.bipush 10, 2) := by decide +kernel
theorem dX5_init_42 : decode cX5_init 42 = .ok (.invokespecial 26, 3) := by decide +kernel
theorem dX5_init_45 : decode cX5_init 45 = .ok (.putfield 33, 3) := by decide +kernel
theorem dX5_init_48 : decode cX5_init 48 = .ok (.aload_n 0, 1) := by decide +kernel
theorem dX5_init_49 : decode cX5_init 49 = .ok (.new 24, 3) := by decide +kernel
theorem dX5_init_52 : decode cX5_init 52 = .ok (.dup, 1) := by decide +kernel
theorem dX5_init_53 : decode cX5_init 53 = .ok (.bipush 8, 2) := by decide +kernel
theorem dX5_init_55 : decode cX5_init 55 = .ok (.invokespecial 26, 3) := by decide +kernel
theorem dX5_init_58 : decode cX5_init 58 = .ok (.putfield 36, 3) := by decide +kernel
theorem dX5_init_61 : decode cX5_init 61 = .ok (.iconst 0, 1) := by decide +kernel
theorem dX5_init_62 : decode cX5_init 62 = .ok (.istore_n 1, 1) := by decide +kernel
theorem dX5_init_63 : decode cX5_init 63 = .ok (.iload_n 1, 1) := by decide +kernel
theorem dX5_init_64 : decode cX5_init 64 = .ok (.iconst 5, 1) := by decide +kernel
theorem dX5_init_65 : decode cX5_init 65 = .ok (.if_icmp .ge 22, 3) := by decide +kernel
theorem dX5_init_68 : decode cX5_init 68 = .ok (.aload_n 0, 1) := by decide +kernel
theorem dX5_init_69 : decode cX5_init 69 = .ok (.getfield 20, 3) := by decide +kernel
theorem dX5_init_72 : decode cX5_init 72 = .ok (.iload_n 1, 1) := by decide +kernel
theorem dX5_init_73 : decode cX5_init 73 = .ok (.new 18, 3) := by decide +kernel
theorem dX5_init_76 : decode cX5_init 76 = .ok (.dup, 1) := by decide +kernel
theorem dX5_init_77 : decode cX5_init 77 = .ok (.invokespecial 39, 3) := by decide +kernel
theorem dX5_init_80 : decode cX5_init 80 = .ok (.aastore, 1) := by decide +kernel
theorem dX5_init_81 : decode cX5_init 81 = .ok (.iinc 1 1, 3) := by decide +kernel
theorem dX5_init_84 : decode cX5_init 84 = .ok (.goto (-21), 3) := by decide +kernel
theorem dX5_init_87 : decode cX5_init 87 = .ok (.return_, 1) := by decide +kernel
theorem dX5_copy_0 : decode cX5_copy 0 = .ok (.aload_n 0, 1) := by decide +kernel
theorem dX5_copy_1 : decode cX5_copy 1 = .ok (.getfield 12, 3) := by decide +kernel
theorem dX5_copy_4 : decode cX5_copy 4 = .ok (.aload_n 1, 1) := by decide +kernel
theorem dX5_copy_5 : decode cX5_copy 5 = .ok (.getfield 12, 3) := by decide +kernel
theorem dX5_copy_8 : decode cX5_copy 8 = .ok (.invokevirtual 40, 3) := by decide +kernel
theorem dX5_copy_11 : decode cX5_copy 11 = .ok (.aload_n 0, 1) := by decide +kernel
theorem dX5_copy_12 : decode cX5_copy 12 = .ok (.aload_n 1, 1) := by decide +kernel
theorem dX5_copy_13 : decode cX5_copy 13 = .ok (.getfield 44, 3) := by decide +kernel
theorem dX5_copy_16 : decode cX5_copy 16 = .ok (.putfield 44, 3) := by decide +kernel
theorem dX5_copy_19 : decode cX5_copy 19 = .ok (.iconst 0, 1) := by decide +kernel
theorem dX5_copy_20 : decode cX5_copy 20 = .ok (.istore_n 2, 1) := by decide +kernel
theorem dX5_copy_21 : decode cX5_copy 21 = .ok (.iload_n 2, 1) := by decide +kernel
theorem dX5_copy_22 : decode cX5_copy 22 = .ok (.aload_n 0, 1) := by decide +kernel
theorem dX5_copy_23 : decode cX5_copy 23 = .ok (.getfield 44, 3) := by decide +kernel
theorem dX5_copy_26 : decode cX5_copy 26 = .ok (.if_icmp .ge 24, 3) := by decide +kernel
theorem dX5_copy_29 : decode cX5_copy 29 = .ok (.aload_n 0, 1) := by decide +kernel
theorem dX5_copy_30 : decode cX5_copy 30 = .ok (.getfield 20, 3) := by decide +kernel
theorem dX5_copy_33 : decode cX5_copy 33 = .ok (.iload_n 2, 1) := by decide +kernel
theorem dX5_copy_34 : decode cX5_copy 34 = .ok (.aaload, 1) := by decide +kernel
theorem dX5_copy_35 : decode cX5_copy 35 = .ok (.aload_n 1, 1) := by decide +kernel
theorem dX5_copy_36 : decode cX5_copy 36 = .ok (.getfield 20, 3) := by decide +kernel
theorem dX5_copy_39 : decode cX5_copy 39 = .ok (.iload_n 2, 1) := by decide +kernel
theorem dX5_copy_40 : decode cX5_copy 40 = .ok (.aaload, 1) := by decide +kernel
theorem dX5_copy_41 : decode cX5_copy 41 = .ok (.invokevirtual 48, 3) := by decide +kernel
theorem dX5_copy_44 : decode cX5_copy 44 = .ok (.iinc 2 1, 3) := by decide +kernel
theorem dX5_copy_47 : decode cX5_copy 47 = .ok (.goto (-26), 3) := by decide +kernel
theorem dX5_copy_50 : decode cX5_copy 50 = .ok (.aload_n 0, 1) := by decide +kernel
theorem dX5_copy_51 : decode cX5_copy 51 = .ok (.aload_n 1, 1) := by decide +kernel
theorem dX5_copy_52 : decode cX5_copy 52 = .ok (.getfield 52, 3) := by decide +kernel
theorem dX5_copy_55 : decode cX5_copy 55 = .ok (.putfield 52, 3) := by decide +kernel
theorem dX5_copy_58 : decode cX5_copy 58 = .ok (.aload_n 0, 1) := by decide +kernel
theorem dX5_copy_59 : decode cX5_copy 59 = .ok (.getfield 29, 3) := by decide +kernel
theorem dX5_copy_62 : decode cX5_copy 62 = .ok (.aload_n 1, 1) := by decide +kernel
theorem dX5_copy_63 : decode cX5_copy 63 = .ok (.getfield 29, 3) := by decide +kernel
theorem dX5_copy_66 : decode cX5_copy 66 = .ok (.invokevirtual 55, 3) := by decide +kernel
theorem dX5_copy_69 : decode cX5_copy 69 = .ok (.aload_n 0, 1) := by decide +kernel
theorem dX5_copy_70 : decode cX5_copy 70 = .ok (.getfield 33, 3) := by decide +kernel
theorem dX5_copy_73 : decode cX5_copy 73 = .ok (.aload_n 1, 1) := by decide +kernel
theorem dX5_copy_74 : decode cX5_copy 74 = .ok (.getfield 33, 3) := by decide +kernel
theorem dX5_copy_77 : decode cX5_copy 77 = .ok (.invokevirtual 55, 3) := by decide +kernel
theorem dX5_copy_80 : decode cX5_copy 80 = .ok (.aload_n 0, 1) := by decide +kernel
theorem dX5_copy_81 : decode cX5_copy 81 = .ok (.getfield 36, 3) := by decide +kernel
theorem dX5_copy_84 : decode cX5_copy 84 = .ok (.aload_n 1, 1) := by decide +kernel
theorem dX5_copy_85 : decode cX5_copy 85 = .ok (.getfield 36, 3) := by decide +kernel
theorem dX5_copy_88 : decode cX5_copy 88 = .ok (.invokevirtual 55, 3) := by decide +kernel
theorem dX5_copy_91 : decode cX5_copy 91 = .ok (.aload_n 0, 1) := by decide +kernel
theorem dX5_copy_92 : decode cX5_copy 92 = .ok (.aload_n 1, 1) := by decide +kernel
theorem dX5_copy_93 : decode cX5_copy 93 = .ok (.getfield 58, 3) := by decide +kernel
theorem dX5_copy_96 : decode cX5_copy 96 = .ok (.putfield 58, 3) := by decide +kernel
theorem dX5_copy_99 : decode cX5_copy 99 = .ok (.return_, 1) := by decide +kernel
theorem dX5_walkerAt_0 : decode cX5_walkerAt 0 = .ok (.iload_n 1, 1) := by decide +kernel
theorem dX5_walkerAt_1 : decode cX5_walkerAt 1 = .ok (.aload_n 0, 1) := by decide +kernel
theorem dX5_walkerAt_2 : decode cX5_walkerAt 2 = .ok (.getfield 44, 3) := by decide +kernel
theorem dX5_walkerAt_5 : decode cX5_walkerAt 5 = .ok (.invokestatic 62, 3) := by decide +kernel
theorem dX5_walkerAt_8 : decode cX5_walkerAt 8 = .ok (.ifCond .eq 12, 3) := by decide +kernel
theorem dX5_walkerAt_11 : decode cX5_walkerAt 11 = .ok (.aload_n 0, 1) := by decide +kernel
theorem dX5_walkerAt_12 : decode cX5_walkerAt 12 = .ok (.getfield 20, 3) := by decide +kernel
theorem dX5_walkerAt_15 : decode cX5_walkerAt 15 = .ok (.iload_n 1, 1) := by decide +kernel
theorem dX5_walkerAt_16 : decode cX5_walkerAt 16 = .ok (.aaload, 1) := by decide +kernel
theorem dX5_walkerAt_17 : decode cX5_walkerAt 17 = .ok (.goto 4, 3) := by decide +kernel
theorem dX5_walkerAt_20 : decode cX5_walkerAt 20 = .ok (.aconst_null, 1) := by decide +kernel
theorem dX5_walkerAt_21 : decode cX5_walkerAt 21 = .ok (.areturn, 1) := by decide +kernel
theorem dX5_crossers_0 : decode cX5_crossers 0 = .ok (.iconst 0, 1) := by decide +kernel
theorem dX5_crossers_1 : decode cX5_crossers 1 = .ok (.istore_n 2, 1) := by decide +kernel
theorem dX5_crossers_2 : decode cX5_crossers 2 = .ok (.iconst 0, 1) := by decide +kernel
theorem dX5_crossers_3 : decode cX5_crossers 3 = .ok (.istore_n 3, 1) := by decide +kernel
theorem dX5_crossers_4 : decode cX5_crossers 4 = .ok (.iload_n 3, 1) := by decide +kernel
theorem dX5_crossers_5 : decode cX5_crossers 5 = .ok (.aload_n 0, 1) := by decide +kernel
theorem dX5_crossers_6 : decode cX5_crossers 6 = .ok (.getfield 44, 3) := by decide +kernel
theorem dX5_crossers_9 : decode cX5_crossers 9 = .ok (.if_icmp .ge 35, 3) := by decide +kernel
theorem dX5_crossers_12 : decode cX5_crossers 12 = .ok (.aload_n 0, 1) := by decide +kernel
theorem dX5_crossers_13 : decode cX5_crossers 13 = .ok (.getfield 20, 3) := by decide +kernel
theorem dX5_crossers_16 : decode cX5_crossers 16 = .ok (.iload_n 3, 1) := by decide +kernel
theorem dX5_crossers_17 : decode cX5_crossers 17 = .ok (.aaload, 1) := by decide +kernel
theorem dX5_crossers_18 : decode cX5_crossers 18 = .ok (.aload_n 1, 1) := by decide +kernel
theorem dX5_crossers_19 : decode cX5_crossers 19 = .ok (.aload_n 0, 1) := by decide +kernel
theorem dX5_crossers_20 : decode cX5_crossers 20 = .ok (.getfield 58, 3) := by decide +kernel
theorem dX5_crossers_23 : decode cX5_crossers 23 = .ok (.getfield 66, 3) := by decide +kernel
theorem dX5_crossers_26 : decode cX5_crossers 26 = .ok (.invokevirtual 71, 3) := by decide +kernel
theorem dX5_crossers_29 : decode cX5_crossers 29 = .ok (.ifCond .lt 9, 3) := by decide +kernel
theorem dX5_crossers_32 : decode cX5_crossers 32 = .ok (.iload_n 2, 1) := by decide +kernel
theorem dX5_crossers_33 : decode cX5_crossers 33 = .ok (.iconst 1, 1) := by decide +kernel
theorem dX5_crossers_34 : decode cX5_crossers 34 = .ok (.iload_n 3, 1) := by decide +kernel
theorem dX5_crossers_35 : decode cX5_crossers 35 = .ok (.ishl, 1) := by decide +kernel
theorem dX5_crossers_36 : decode cX5_crossers 36 = .ok (.ior, 1) := by decide +kernel
theorem dX5_crossers_37 : decode cX5_crossers 37 = .ok (.istore_n 2, 1) := by decide +kernel
theorem dX5_crossers_38 : decode cX5_crossers 38 = .ok (.iinc 3 1, 3) := by decide +kernel
theorem dX5_crossers_41 : decode cX5_crossers 41 = .ok (.goto (-37), 3) := by decide +kernel
theorem dX5_crossers_44 : decode cX5_crossers 44 = .ok (.iload_n 2, 1) := by decide +kernel
theorem dX5_crossers_45 : decode cX5_crossers 45 = .ok (.ireturn, 1) := by decide +kernel
theorem dX5_borneOnAll_0 : decode cX5_borneOnAll 0 = .ok (.iconst 0, 1) := by decide +kernel
theorem dX5_borneOnAll_1 : decode cX5_borneOnAll 1 = .ok (.istore_n 2, 1) := by decide +kernel
theorem dX5_borneOnAll_2 : decode cX5_borneOnAll 2 = .ok (.iconst 0, 1) := by decide +kernel
theorem dX5_borneOnAll_3 : decode cX5_borneOnAll 3 = .ok (.istore_n 3, 1) := by decide +kernel
theorem dX5_borneOnAll_4 : decode cX5_borneOnAll 4 = .ok (.iload_n 3, 1) := by decide +kernel
theorem dX5_borneOnAll_5 : decode cX5_borneOnAll 5 = .ok (.aload_n 0, 1) := by decide +kernel
theorem dX5_borneOnAll_6 : decode cX5_borneOnAll 6 = .ok (.getfield 44, 3) := by decide +kernel
theorem dX5_borneOnAll_9 : decode cX5_borneOnAll 9 = .ok (.if_icmp .ge 42, 3) := by decide +kernel
theorem dX5_borneOnAll_12 : decode cX5_borneOnAll 12 = .ok (.iload_n 1, 1) := by decide +kernel
theorem dX5_borneOnAll_13 : decode cX5_borneOnAll 13 = .ok (.aload_n 0, 1) := by decide +kernel
theorem dX5_borneOnAll_14 : decode cX5_borneOnAll 14 = .ok (.getfield 20, 3) := by decide +kernel
theorem dX5_borneOnAll_17 : decode cX5_borneOnAll 17 = .ok (.iload_n 3, 1) := by decide +kernel
theorem dX5_borneOnAll_18 : decode cX5_borneOnAll 18 = .ok (.aaload, 1) := by decide +kernel
theorem dX5_borneOnAll_19 : decode cX5_borneOnAll 19 = .ok (.aload_n 0, 1) := by decide +kernel
theorem dX5_borneOnAll_20 : decode cX5_borneOnAll 20 = .ok (.getfield 12, 3) := by decide +kernel
theorem dX5_borneOnAll_23 : decode cX5_borneOnAll 23 = .ok (.aload_n 0, 1) := by decide +kernel
theorem dX5_borneOnAll_24 : decode cX5_borneOnAll 24 = .ok (.getfield 58, 3) := by decide +kernel
theorem dX5_borneOnAll_27 : decode cX5_borneOnAll 27 = .ok (.getfield 66, 3) := by decide +kernel
theorem dX5_borneOnAll_30 : decode cX5_borneOnAll 30 = .ok (.invokevirtual 75, 3) := by decide +kernel
theorem dX5_borneOnAll_33 : decode cX5_borneOnAll 33 = .ok (.iconst (-1), 1) := by decide +kernel
theorem dX5_borneOnAll_34 : decode cX5_borneOnAll 34 = .ok (.ixor, 1) := by decide +kernel
theorem dX5_borneOnAll_35 : decode cX5_borneOnAll 35 = .ok (.iand, 1) := by decide +kernel
theorem dX5_borneOnAll_36 : decode cX5_borneOnAll 36 = .ok (.ifCond .ne 9, 3) := by decide +kernel
theorem dX5_borneOnAll_39 : decode cX5_borneOnAll 39 = .ok (.iload_n 2, 1) := by decide +kernel
theorem dX5_borneOnAll_40 : decode cX5_borneOnAll 40 = .ok (.iconst 1, 1) := by decide +kernel
theorem dX5_borneOnAll_41 : decode cX5_borneOnAll 41 = .ok (.iload_n 3, 1) := by decide +kernel
theorem dX5_borneOnAll_42 : decode cX5_borneOnAll 42 = .ok (.ishl, 1) := by decide +kernel
theorem dX5_borneOnAll_43 : decode cX5_borneOnAll 43 = .ok (.ior, 1) := by decide +kernel
theorem dX5_borneOnAll_44 : decode cX5_borneOnAll 44 = .ok (.istore_n 2, 1) := by decide +kernel
theorem dX5_borneOnAll_45 : decode cX5_borneOnAll 45 = .ok (.iinc 3 1, 3) := by decide +kernel
theorem dX5_borneOnAll_48 : decode cX5_borneOnAll 48 = .ok (.goto (-44), 3) := by decide +kernel
theorem dX5_borneOnAll_51 : decode cX5_borneOnAll 51 = .ok (.iload_n 2, 1) := by decide +kernel
theorem dX5_borneOnAll_52 : decode cX5_borneOnAll 52 = .ok (.ireturn, 1) := by decide +kernel
theorem dX6_init_0 : decode cX6_init 0 = .ok (.aload_n 0, 1) := by decide +kernel
theorem dX6_init_1 : decode cX6_init 1 = .ok (.invokespecial 1, 3) := by decide +kernel
theorem dX6_init_4 : decode cX6_init 4 = .ok (.aload_n 0, 1) := by decide +kernel
theorem dX6_init_5 : decode cX6_init 5 = .ok (.iconst (-1), 1) := by decide +kernel
theorem dX6_init_6 : decode cX6_init 6 = .ok (.putfield 9, 3) := by decide +kernel
theorem dX6_init_9 : decode cX6_init 9 = .ok (.aload_n 0, 1) := by decide +kernel
theorem dX6_init_10 : decode cX6_init 10 = .ok (.bipush 60, 2) := by decide +kernel
theorem dX6_init_12 : decode cX6_init 12 = .ok (.newarray .long, 2) := by decide +kernel
theorem dX6_init_14 : decode cX6_init 14 = .ok (.putfield 13, 3) := by decide +kernel
theorem dX6_init_17 : decode cX6_init 17 = .ok (.return_, 1) := by decide +kernel
theorem dX6_isNothing_0 : decode cX6_isNothing 0 = .ok (.aload_n 0, 1) := by decide +kernel
theorem dX6_isNothing_1 : decode cX6_isNothing 1 = .ok (.getfield 9, 3) := by decide +kernel
theorem dX6_isNothing_4 : decode cX6_isNothing 4 = .ok (.iconst (-1), 1) := by decide +kernel
theorem dX6_isNothing_5 : decode cX6_isNothing 5 = .ok (.if_icmp .ne 7, 3) := by decide +kernel
theorem dX6_isNothing_8 : decode cX6_isNothing 8 = .ok (.iconst 1, 1) := by decide +kernel
theorem dX6_isNothing_9 : decode cX6_isNothing 9 = .ok (.goto 4, 3) := by decide +kernel
theorem dX6_isNothing_12 : decode cX6_isNothing 12 = .ok (.iconst 0, 1) := by decide +kernel
theorem dX6_isNothing_13 : decode cX6_isNothing 13 = .ok (.ireturn, 1) := by decide +kernel
theorem dX6_become_0 : decode cX6_become 0 = .ok (.aload_n 0, 1) := by decide +kernel
theorem dX6_become_1 : decode cX6_become 1 = .ok (.iload_n 1, 1) := by decide +kernel
theorem dX6_become_2 : decode cX6_become 2 = .ok (.putfield 9, 3) := by decide +kernel
theorem dX6_become_5 : decode cX6_become 5 = .ok (.aload_n 0, 1) := by decide +kernel
theorem dX6_become_6 : decode cX6_become 6 = .ok (.iload_n 2, 1) := by decide +kernel
theorem dX6_become_7 : decode cX6_become 7 = .ok (.putfield 17, 3) := by decide +kernel
theorem dX6_become_10 : decode cX6_become 10 = .ok (.iconst 0, 1) := by decide +kernel
theorem dX6_become_11 : decode cX6_become 11 = .ok (.istore_n 3, 1) := by decide +kernel
theorem dX6_become_12 : decode cX6_become 12 = .ok (.iload_n 3, 1) := by decide +kernel
theorem dX6_become_13 : decode cX6_become 13 = .ok (.bipush 60, 2) := by decide +kernel
theorem dX6_become_15 : decode cX6_become 15 = .ok (.if_icmp .ge 16, 3) := by decide +kernel
theorem dX6_become_18 : decode cX6_become 18 = .ok (.aload_n 0, 1) := by decide +kernel
theorem dX6_become_19 : decode cX6_become 19 = .ok (.getfield 13, 3) := by decide +kernel
theorem dX6_become_22 : decode cX6_become 22 = .ok (.iload_n 3, 1) := by decide +kernel
theorem dX6_become_23 : decode cX6_become 23 = .ok (.lconst 0, 1) := by decide +kernel
theorem dX6_become_24 : decode cX6_become 24 = .ok (.lastore, 1) := by decide +kernel
theorem dX6_become_25 : decode cX6_become 25 = .ok (.iinc 3 1, 3) := by decide +kernel
theorem dX6_become_28 : decode cX6_become 28 = .ok (.goto (-16), 3) := by decide +kernel
theorem dX6_become_31 : decode cX6_become 31 = .ok (.return_, 1) := by decide +kernel
theorem dX6_fitted_0 : decode cX6_fitted 0 = .ok (.aload_n 0, 1) := by decide +kernel
theorem dX6_fitted_1 : decode cX6_fitted 1 = .ok (.getfield 9, 3) := by decide +kernel
theorem dX6_fitted_4 : decode cX6_fitted 4 = .ok (.tableswitch 48 0 3 #[32, 37, 42, 46], 32) := by decide +kernel
theorem dX6_fitted_36 : decode cX6_fitted 36 = .ok (.lload_n 1, 1) := by decide +kernel
theorem dX6_fitted_37 : decode cX6_fitted 37 = .ok (.l2i, 1) := by decide +kernel
theorem dX6_fitted_38 : decode cX6_fitted 38 = .ok (.i2b, 1) := by decide +kernel
theorem dX6_fitted_39 : decode cX6_fitted 39 = .ok (.i2l, 1) := by decide +kernel
theorem dX6_fitted_40 : decode cX6_fitted 40 = .ok (.lreturn, 1) := by decide +kernel
theorem dX6_fitted_41 : decode cX6_fitted 41 = .ok (.lload_n 1, 1) := by decide +kernel
theorem dX6_fitted_42 : decode cX6_fitted 42 = .ok (.l2i, 1) := by decide +kernel
theorem dX6_fitted_43 : decode cX6_fitted 43 = .ok (.i2s, 1) := by decide +kernel
theorem dX6_fitted_44 : decode cX6_fitted 44 = .ok (.i2l, 1) := by decide +kernel
theorem dX6_fitted_45 : decode cX6_fitted 45 = .ok (.lreturn, 1) := by decide +kernel
theorem dX6_fitted_46 : decode cX6_fitted 46 = .ok (.lload_n 1, 1) := by decide +kernel
theorem dX6_fitted_47 : decode cX6_fitted 47 = .ok (.l2i, 1) := by decide +kernel
theorem dX6_fitted_48 : decode cX6_fitted 48 = .ok (.i2l, 1) := by decide +kernel
theorem dX6_fitted_49 : decode cX6_fitted 49 = .ok (.lreturn, 1) := by decide +kernel
theorem dX6_fitted_50 : decode cX6_fitted 50 = .ok (.lload_n 1, 1) := by decide +kernel
theorem dX6_fitted_51 : decode cX6_fitted 51 = .ok (.lreturn, 1) := by decide +kernel
theorem dX6_fitted_52 : decode cX6_fitted 52 = .ok (.lload_n 1, 1) := by decide +kernel
theorem dX6_fitted_53 : decode cX6_fitted 53 = .ok (.lconst 0, 1) := by decide +kernel
theorem dX6_fitted_54 : decode cX6_fitted 54 = .ok (.lcmp, 1) := by decide +kernel
theorem dX6_fitted_55 : decode cX6_fitted 55 = .ok (.ifCond .eq 7, 3) := by decide +kernel
theorem dX6_fitted_58 : decode cX6_fitted 58 = .ok (.lconst 1, 1) := by decide +kernel
theorem dX6_fitted_59 : decode cX6_fitted 59 = .ok (.goto 4, 3) := by decide +kernel
theorem dX6_fitted_62 : decode cX6_fitted 62 = .ok (.lconst 0, 1) := by decide +kernel
theorem dX6_fitted_63 : decode cX6_fitted 63 = .ok (.lreturn, 1) := by decide +kernel
theorem dX7_init_0 : decode cX7_init 0 = .ok (.aload_n 0, 1) := by decide +kernel
theorem dX7_init_1 : decode cX7_init 1 = .ok (.invokespecial 3, 3) := by decide +kernel
theorem dX7_init_4 : decode cX7_init 4 = .ok (.aload_n 0, 1) := by decide +kernel
theorem dX7_init_5 : decode cX7_init 5 = .ok (.iconst 4, 1) := by decide +kernel
theorem dX7_init_6 : decode cX7_init 6 = .ok (.newarray .int, 2) := by decide +kernel
theorem dX7_init_8 : decode cX7_init 8 = .ok (.putfield 9, 3) := by decide +kernel
theorem dX7_init_11 : decode cX7_init 11 = .ok (.return_, 1) := by decide +kernel
theorem dX7_become_0 : decode cX7_become 0 = .ok (.aload_n 0, 1) := by decide +kernel
theorem dX7_become_1 : decode cX7_become 1 = .ok (.iload_n 1, 1) := by decide +kernel
theorem dX7_become_2 : decode cX7_become 2 = .ok (.putfield 15, 3) := by decide +kernel
theorem dX7_become_5 : decode cX7_become 5 = .ok (.aload_n 0, 1) := by decide +kernel
theorem dX7_become_6 : decode cX7_become 6 = .ok (.iload_n 2, 1) := by decide +kernel
theorem dX7_become_7 : decode cX7_become 7 = .ok (.putfield 19, 3) := by decide +kernel
theorem dX7_become_10 : decode cX7_become 10 = .ok (.aload_n 0, 1) := by decide +kernel
theorem dX7_become_11 : decode cX7_become 11 = .ok (.iload_n 3, 1) := by decide +kernel
theorem dX7_become_12 : decode cX7_become 12 = .ok (.putfield 22, 3) := by decide +kernel
theorem dX7_become_15 : decode cX7_become 15 = .ok (.iconst 0, 1) := by decide +kernel
theorem dX7_become_16 : decode cX7_become 16 = .ok (.istore 4, 2) := by decide +kernel
theorem dX7_become_18 : decode cX7_become 18 = .ok (.iload 4, 2) := by decide +kernel
theorem dX7_become_20 : decode cX7_become 20 = .ok (.iconst 4, 1) := by decide +kernel
theorem dX7_become_21 : decode cX7_become 21 = .ok (.if_icmp .ge 17, 3) := by decide +kernel
theorem dX7_become_24 : decode cX7_become 24 = .ok (.aload_n 0, 1) := by decide +kernel
theorem dX7_become_25 : decode cX7_become 25 = .ok (.getfield 9, 3) := by decide +kernel
theorem dX7_become_28 : decode cX7_become 28 = .ok (.iload 4, 2) := by decide +kernel
theorem dX7_become_30 : decode cX7_become 30 = .ok (.iconst 0, 1) := by decide +kernel
theorem dX7_become_31 : decode cX7_become 31 = .ok (.iastore, 1) := by decide +kernel
theorem dX7_become_32 : decode cX7_become 32 = .ok (.iinc 4 1, 3) := by decide +kernel
theorem dX7_become_35 : decode cX7_become 35 = .ok (.goto (-17), 3) := by decide +kernel
theorem dX7_become_38 : decode cX7_become 38 = .ok (.return_, 1) := by decide +kernel
theorem dX7_copy_0 : decode cX7_copy 0 = .ok (.aload_n 0, 1) := by decide +kernel
theorem dX7_copy_1 : decode cX7_copy 1 = .ok (.aload_n 1, 1) := by decide +kernel
theorem dX7_copy_2 : decode cX7_copy 2 = .ok (.getfield 15, 3) := by decide +kernel
theorem dX7_copy_5 : decode cX7_copy 5 = .ok (.putfield 15, 3) := by decide +kernel
theorem dX7_copy_8 : decode cX7_copy 8 = .ok (.aload_n 0, 1) := by decide +kernel
theorem dX7_copy_9 : decode cX7_copy 9 = .ok (.aload_n 1, 1) := by decide +kernel
theorem dX7_copy_10 : decode cX7_copy 10 = .ok (.getfield 19, 3) := by decide +kernel
theorem dX7_copy_13 : decode cX7_copy 13 = .ok (.putfield 19, 3) := by decide +kernel
theorem dX7_copy_16 : decode cX7_copy 16 = .ok (.aload_n 0, 1) := by decide +kernel
theorem dX7_copy_17 : decode cX7_copy 17 = .ok (.aload_n 1, 1) := by decide +kernel
theorem dX7_copy_18 : decode cX7_copy 18 = .ok (.getfield 22, 3) := by decide +kernel
theorem dX7_copy_21 : decode cX7_copy 21 = .ok (.putfield 22, 3) := by decide +kernel
theorem dX7_copy_24 : decode cX7_copy 24 = .ok (.aload_n 1, 1) := by decide +kernel
theorem dX7_copy_25 : decode cX7_copy 25 = .ok (.getfield 9, 3) := by decide +kernel
theorem dX7_copy_28 : decode cX7_copy 28 = .ok (.iconst 0, 1) := by decide +kernel
theorem dX7_copy_29 : decode cX7_copy 29 = .ok (.aload_n 0, 1) := by decide +kernel
theorem dX7_copy_30 : decode cX7_copy 30 = .ok (.getfield 9, 3) := by decide +kernel
theorem dX7_copy_33 : decode cX7_copy 33 = .ok (.iconst 0, 1) := by decide +kernel
theorem dX7_copy_34 : decode cX7_copy 34 = .ok (.iconst 4, 1) := by decide +kernel
theorem dX7_copy_35 : decode cX7_copy 35 = .ok (.invokestatic 25, 3) := by decide +kernel
theorem dX7_copy_38 : decode cX7_copy 38 = .ok (.return_, 1) := by decide +kernel
theorem dX7_needs_0 : decode cX7_needs 0 = .ok (.aload_n 0, 1) := by decide +kernel
theorem dX7_needs_1 : decode cX7_needs 1 = .ok (.getfield 15, 3) := by decide +kernel
theorem dX7_needs_4 : decode cX7_needs 4 = .ok (.tableswitch 117 2 6 #[36, 54, 64, 78, 100], 36) := by decide +kernel
theorem dX7_needs_40 : decode cX7_needs 40 = .ok (.iload_n 1, 1) := by decide +kernel
theorem dX7_needs_41 : decode cX7_needs 41 = .ok (.ifCond .ne 12, 3) := by decide +kernel
theorem dX7_needs_44 : decode cX7_needs 44 = .ok (.aload_n 0, 1) := by decide +kernel
theorem dX7_needs_45 : decode cX7_needs 45 = .ok (.getfield 22, 3) := by decide +kernel
theorem dX7_needs_48 : decode cX7_needs 48 = .ok (.iconst 2, 1) := by decide +kernel
theorem dX7_needs_49 : decode cX7_needs 49 = .ok (.idiv, 1) := by decide +kernel
theorem dX7_needs_50 : decode cX7_needs 50 = .ok (.goto 7, 3) := by decide +kernel
theorem dX7_needs_53 : decode cX7_needs 53 = .ok (.aload_n 0, 1) := by decide +kernel
theorem dX7_needs_54 : decode cX7_needs 54 = .ok (.getfield 22, 3) := by decide +kernel
theorem dX7_needs_57 : decode cX7_needs 57 = .ok (.ireturn, 1) := by decide +kernel
theorem dX7_needs_58 : decode cX7_needs 58 = .ok (.aload_n 0, 1) := by decide +kernel
theorem dX7_needs_59 : decode cX7_needs 59 = .ok (.getfield 22, 3) := by decide +kernel
theorem dX7_needs_62 : decode cX7_needs 62 = .ok (.aload_n 0, 1) := by decide +kernel
theorem dX7_needs_63 : decode cX7_needs 63 = .ok (.getfield 19, 3) := by decide +kernel
theorem dX7_needs_66 : decode cX7_needs 66 = .ok (.iadd, 1) := by decide +kernel
theorem dX7_needs_67 : decode cX7_needs 67 = .ok (.ireturn, 1) := by decide +kernel
theorem dX7_needs_68 : decode cX7_needs 68 = .ok (.iconst 0, 1) := by decide +kernel
theorem dX7_needs_69 : decode cX7_needs 69 = .ok (.aload_n 0, 1) := by decide +kernel
theorem dX7_needs_70 : decode cX7_needs 70 = .ok (.getfield 22, 3) := by decide +kernel
theorem dX7_needs_73 : decode cX7_needs 73 = .ok (.aload_n 0, 1) := by decide +kernel
theorem dX7_needs_74 : decode cX7_needs 74 = .ok (.getfield 19, 3) := by decide +kernel
theorem dX7_needs_77 : decode cX7_needs 77 = .ok (.isub, 1) := by decide +kernel
theorem dX7_needs_78 : decode cX7_needs 78 = .ok (.invokestatic 31, 3) := by decide +kernel
theorem dX7_needs_81 : decode cX7_needs 81 = .ok (.ireturn, 1) := by decide +kernel
theorem dX7_needs_82 : decode cX7_needs 82 = .ok (.iload_n 1, 1) := by decide +kernel
theorem dX7_needs_83 : decode cX7_needs 83 = .ok (.ifCond .ne 14, 3) := by decide +kernel
theorem dX7_needs_86 : decode cX7_needs 86 = .ok (.aload_n 0, 1) := by decide +kernel
theorem dX7_needs_87 : decode cX7_needs 87 = .ok (.getfield 22, 3) := by decide +kernel
theorem dX7_needs_90 : decode cX7_needs 90 = .ok (.iconst 2, 1) := by decide +kernel
theorem dX7_needs_91 : decode cX7_needs 91 = .ok (.idiv, 1) := by decide +kernel
theorem dX7_needs_92 : decode cX7_needs 92 = .ok (.iconst 2, 1) := by decide +kernel
theorem dX7_needs_93 : decode cX7_needs 93 = .ok (.imul, 1) := by decide +kernel
theorem dX7_needs_94 : decode cX7_needs 94 = .ok (.goto 9, 3) := by decide +kernel
theorem dX7_needs_97 : decode cX7_needs 97 = .ok (.aload_n 0, 1) := by decide +kernel
theorem dX7_needs_98 : decode cX7_needs 98 = .ok (.getfield 22, 3) := by decide +kernel
theorem dX7_needs_101 : decode cX7_needs 101 = .ok (.iconst 2, 1) := by decide +kernel
theorem dX7_needs_102 : decode cX7_needs 102 = .ok (.imul, 1) := by decide +kernel
theorem dX7_needs_103 : decode cX7_needs 103 = .ok (.ireturn, 1) := by decide +kernel
theorem dX7_needs_104 : decode cX7_needs 104 = .ok (.aload_n 0, 1) := by decide +kernel
theorem dX7_needs_105 : decode cX7_needs 105 = .ok (.getfield 22, 3) := by decide +kernel
theorem dX7_needs_108 : decode cX7_needs 108 = .ok (.aload_n 0, 1) := by decide +kernel
theorem dX7_needs_109 : decode cX7_needs 109 = .ok (.getfield 19, 3) := by decide +kernel
theorem dX7_needs_112 : decode cX7_needs 112 = .ok (.iadd, 1) := by decide +kernel
theorem dX7_needs_113 : decode cX7_needs 113 = .ok (.aload_n 0, 1) := by decide +kernel
theorem dX7_needs_114 : decode cX7_needs 114 = .ok (.getfield 9, 3) := by decide +kernel
theorem dX7_needs_117 : decode cX7_needs 117 = .ok (.iload_n 1, 1) := by decide +kernel
theorem dX7_needs_118 : decode cX7_needs 118 = .ok (.iaload, 1) := by decide +kernel
theorem dX7_needs_119 : decode cX7_needs 119 = .ok (.iadd, 1) := by decide +kernel
theorem dX7_needs_120 : decode cX7_needs 120 = .ok (.ireturn, 1) := by decide +kernel
theorem dX7_needs_121 : decode cX7_needs 121 = .ok (.aload_n 0, 1) := by decide +kernel
theorem dX7_needs_122 : decode cX7_needs 122 = .ok (.getfield 22, 3) := by decide +kernel
theorem dX7_needs_125 : decode cX7_needs 125 = .ok (.ireturn, 1) := by decide +kernel
theorem dX7_leaps_0 : decode cX7_leaps 0 = .ok (.aload_n 0, 1) := by decide +kernel
theorem dX7_leaps_1 : decode cX7_leaps 1 = .ok (.getfield 15, 3) := by decide +kernel
theorem dX7_leaps_4 : decode cX7_leaps 4 = .ok (.iconst 1, 1) := by decide +kernel
theorem dX7_leaps_5 : decode cX7_leaps 5 = .ok (.if_icmp .eq 11, 3) := by decide +kernel
theorem dX7_leaps_8 : decode cX7_leaps 8 = .ok (.aload_n 0, 1) := by decide +kernel
theorem dX7_leaps_9 : decode cX7_leaps 9 = .ok (.getfield 15, 3) := by decide +kernel
theorem dX7_leaps_12 : decode cX7_leaps 12 = .ok (.iconst 4, 1) := by decide +kernel
theorem dX7_leaps_13 : decode cX7_leaps 13 = .ok (.if_icmp .ne 7, 3) := by decide +kernel
theorem dX7_leaps_16 : decode cX7_leaps 16 = .ok (.iconst 1, 1) := by decide +kernel
theorem dX7_leaps_17 : decode cX7_leaps 17 = .ok (.goto 4, 3) := by decide +kernel
theorem dX7_leaps_20 : decode cX7_leaps 20 = .ok (.iconst 0, 1) := by decide +kernel
theorem dX7_leaps_21 : decode cX7_leaps 21 = .ok (.ireturn, 1) := by decide +kernel
theorem dX7_bearers_0 : decode cX7_bearers 0 = .ok (.iconst 0, 1) := by decide +kernel
theorem dX7_bearers_1 : decode cX7_bearers 1 = .ok (.istore_n 3, 1) := by decide +kernel
theorem dX7_bearers_2 : decode cX7_bearers 2 = .ok (.iconst 0, 1) := by decide +kernel
theorem dX7_bearers_3 : decode cX7_bearers 3 = .ok (.istore 4, 2) := by decide +kernel
theorem dX7_bearers_5 : decode cX7_bearers 5 = .ok (.iload 4, 2) := by decide +kernel
theorem dX7_bearers_7 : decode cX7_bearers 7 = .ok (.iconst 4, 1) := by decide +kernel
theorem dX7_bearers_8 : decode cX7_bearers 8 = .ok (.if_icmp .ge 65, 3) := by decide +kernel
theorem dX7_bearers_11 : decode cX7_bearers 11 = .ok (.aload_n 0, 1) := by decide +kernel
theorem dX7_bearers_12 : decode cX7_bearers 12 = .ok (.iload 4, 2) := by decide +kernel
theorem dX7_bearers_14 : decode cX7_bearers 14 = .ok (.invokevirtual 37, 3) := by decide +kernel
theorem dX7_bearers_17 : decode cX7_bearers 17 = .ok (.istore 5, 2) := by decide +kernel
theorem dX7_bearers_19 : decode cX7_bearers 19 = .ok (.iconst 4, 1) := by decide +kernel
theorem dX7_bearers_20 : decode cX7_bearers 20 = .ok (.iload 4, 2) := by decide +kernel
theorem dX7_bearers_22 : decode cX7_bearers 22 = .ok (.imul, 1) := by decide +kernel
theorem dX7_bearers_23 : decode cX7_bearers 23 = .ok (.istore 6, 2) := by decide +kernel
theorem dX7_bearers_25 : decode cX7_bearers 25 = .ok (.iload 6, 2) := by decide +kernel
theorem dX7_bearers_27 : decode cX7_bearers 27 = .ok (.iconst 4, 1) := by decide +kernel
theorem dX7_bearers_28 : decode cX7_bearers 28 = .ok (.iload 4, 2) := by decide +kernel
theorem dX7_bearers_30 : decode cX7_bearers 30 = .ok (.imul, 1) := by decide +kernel
theorem dX7_bearers_31 : decode cX7_bearers 31 = .ok (.iconst 4, 1) := by decide +kernel
theorem dX7_bearers_32 : decode cX7_bearers 32 = .ok (.iadd, 1) := by decide +kernel
theorem dX7_bearers_33 : decode cX7_bearers 33 = .ok (.if_icmp .ge 34, 3) := by decide +kernel
theorem dX7_bearers_36 : decode cX7_bearers 36 = .ok (.iload 6, 2) := by decide +kernel
theorem dX7_bearers_38 : decode cX7_bearers 38 = .ok (.iload_n 2, 1) := by decide +kernel
theorem dX7_bearers_39 : decode cX7_bearers 39 = .ok (.if_icmp .eq 22, 3) := by decide +kernel
theorem dX7_bearers_42 : decode cX7_bearers 42 = .ok (.aload_n 1, 1) := by decide +kernel
theorem dX7_bearers_43 : decode cX7_bearers 43 = .ok (.getfield 41, 3) := by decide +kernel
theorem dX7_bearers_46 : decode cX7_bearers 46 = .ok (.iload 6, 2) := by decide +kernel
theorem dX7_bearers_48 : decode cX7_bearers 48 = .ok (.iaload, 1) := by decide +kernel
theorem dX7_bearers_49 : decode cX7_bearers 49 = .ok (.iload 5, 2) := by decide +kernel
theorem dX7_bearers_51 : decode cX7_bearers 51 = .ok (.if_icmp .lt 10, 3) := by decide +kernel
theorem dX7_bearers_54 : decode cX7_bearers 54 = .ok (.iload_n 3, 1) := by decide +kernel
theorem dX7_bearers_55 : decode cX7_bearers 55 = .ok (.iconst 1, 1) := by decide +kernel
theorem dX7_bearers_56 : decode cX7_bearers 56 = .ok (.iload 6, 2) := by decide +kernel
theorem dX7_bearers_58 : decode cX7_bearers 58 = .ok (.ishl, 1) := by decide +kernel
theorem dX7_bearers_59 : decode cX7_bearers 59 = .ok (.ior, 1) := by decide +kernel
theorem dX7_bearers_60 : decode cX7_bearers 60 = .ok (.istore_n 3, 1) := by decide +kernel
theorem dX7_bearers_61 : decode cX7_bearers 61 = .ok (.iinc 6 1, 3) := by decide +kernel
theorem dX7_bearers_64 : decode cX7_bearers 64 = .ok (.goto (-39), 3) := by decide +kernel
theorem dX7_bearers_67 : decode cX7_bearers 67 = .ok (.iinc 4 1, 3) := by decide +kernel
theorem dX7_bearers_70 : decode cX7_bearers 70 = .ok (.goto (-65), 3) := by decide +kernel
theorem dX7_bearers_73 : decode cX7_bearers 73 = .ok (.iload_n 3, 1) := by decide +kernel
theorem dX7_bearers_74 : decode cX7_bearers 74 = .ok (.ireturn, 1) := by decide +kernel
theorem dX7_crossing_0 : decode cX7_crossing 0 = .ok (.sipush 4369, 3) := by decide +kernel
theorem dX7_crossing_3 : decode cX7_crossing 3 = .ok (.ldc 46, 2) := by decide +kernel
theorem dX7_crossing_5 : decode cX7_crossing 5 = .ok (.aload_n 0, 1) := by decide +kernel
theorem dX7_crossing_6 : decode cX7_crossing 6 = .ok (.aload_n 1, 1) := by decide +kernel
theorem dX7_crossing_7 : decode cX7_crossing 7 = .ok (.iload_n 2, 1) := by decide +kernel
theorem dX7_crossing_8 : decode cX7_crossing 8 = .ok (.invokevirtual 47, 3) := by decide +kernel
theorem dX7_crossing_11 : decode cX7_crossing 11 = .ok (.aload_n 0, 1) := by decide +kernel
theorem dX7_crossing_12 : decode cX7_crossing 12 = .ok (.invokevirtual 51, 3) := by decide +kernel
theorem dX7_crossing_15 : decode cX7_crossing 15 = .ok (.invokestatic 55, 3) := by decide +kernel
theorem dX7_crossing_18 : decode cX7_crossing 18 = .ok (.ireturn, 1) := by decide +kernel
theorem dX8_init_0 : decode cX8_init 0 = .ok (.aload_n 0, 1) := by decide +kernel
theorem dX8_init_1 : decode cX8_init 1 = .ok (.invokespecial 3, 3) := by decide +kernel
theorem dX8_init_4 : decode cX8_init 4 = .ok (.aload_n 0, 1) := by decide +kernel
theorem dX8_init_5 : decode cX8_init 5 = .ok (.new 9, 3) := by decide +kernel
theorem dX8_init_8 : decode cX8_init 8 = .ok (.dup, 1) := by decide +kernel
theorem dX8_init_9 : decode cX8_init 9 = .ok (.invokespecial 11, 3) := by decide +kernel
theorem dX8_init_12 : decode cX8_init 12 = .ok (.putfield 12, 3) := by decide +kernel
theorem dX8_init_15 : decode cX8_init 15 = .ok (.aload_n 0, 1) := by decide +kernel
theorem dX8_init_16 : decode cX8_init 16 = .ok (.new 9, 3) := by decide +kernel
theorem dX8_init_19 : decode cX8_init 19 = .ok (.dup, 1) := by decide +kernel
theorem dX8_init_20 : decode cX8_init 20 = .ok (.invokespecial 11, 3) := by decide +kernel
theorem dX8_init_23 : decode cX8_init 23 = .ok (.putfield 18, 3) := by decide +kernel
theorem dX8_init_26 : decode cX8_init 26 = .ok (.aload_n 0, 1) := by decide +kernel
theorem dX8_init_27 : decode cX8_init 27 = .ok (.new 21, 3) := by decide +kernel
theorem dX8_init_30 : decode cX8_init 30 = .ok (.dup, 1) := by decide +kernel
theorem dX8_init_31 : decode cX8_init 31 = .ok (.invokespecial 23, 3) := by decide +kernel
theorem dX8_init_34 : decode cX8_init 34 = .ok (.putfield 24, 3) := by decide +kernel
theorem dX8_init_37 : decode cX8_init 37 = .ok (.aload_n 0, 1) := by decide +kernel
theorem dX8_init_38 : decode cX8_init 38 = .ok (.new 28, 3) := by decide +kernel
theorem dX8_init_41 : decode cX8_init 41 = .ok (.dup, 1) := by decide +kernel
theorem dX8_init_42 : decode cX8_init 42 = .ok (.invokespecial 30, 3) := by decide +kernel
theorem dX8_init_45 : decode cX8_init 45 = .ok (.putfield 31, 3) := by decide +kernel
theorem dX8_init_48 : decode cX8_init 48 = .ok (.aload_n 0, 1) := by decide +kernel
theorem dX8_init_49 : decode cX8_init 49 = .ok (.bipush 6, 2) := by decide +kernel
theorem dX8_init_51 : decode cX8_init 51 = .ok (.anewarray 35, 3) := by decide +kernel
theorem dX8_init_54 : decode cX8_init 54 = .ok (.putfield 37, 3) := by decide +kernel
theorem dX8_init_57 : decode cX8_init 57 = .ok (.aload_n 0, 1) := by decide +kernel
theorem dX8_init_58 : decode cX8_init 58 = .ok (.new 41, 3) := by decide +kernel
theorem dX8_init_61 : decode cX8_init 61 = .ok (.dup, 1) := by decide +kernel
theorem dX8_init_62 : decode cX8_init 62 = .ok (.invokespecial 43, 3) := by decide +kernel
theorem dX8_init_65 : decode cX8_init 65 = .ok (.putfield 44, 3) := by decide +kernel
theorem dX8_init_68 : decode cX8_init 68 = .ok (.aload_n 0, 1) := by decide +kernel
theorem dX8_init_69 : decode cX8_init 69 = .ok (.new 48, 3) := by decide +kernel
theorem dX8_init_72 : decode cX8_init 72 = .ok (.dup, 1) := by decide +kernel
theorem dX8_init_73 : decode cX8_init 73 = .ok (.invokespecial 50, 3) := by decide +kernel
theorem dX8_init_76 : decode cX8_init 76 = .ok (.putfield 51, 3) := by decide +kernel
theorem dX8_init_79 : decode cX8_init 79 = .ok (.aload_n 0, 1) := by decide +kernel
theorem dX8_init_80 : decode cX8_init 80 = .ok (.bipush 100, 2) := by decide +kernel
theorem dX8_init_82 : decode cX8_init 82 = .ok (.newarray .boolean, 2) := by decide +kernel
theorem dX8_init_84 : decode cX8_init 84 = .ok (.putfield 55, 3) := by decide +kernel
theorem dX8_init_87 : decode cX8_init 87 = .ok (.aload_n 0, 1) := by decide +kernel
theorem dX8_init_88 : decode cX8_init 88 = .ok (.getfield 12, 3) := by decide +kernel
theorem dX8_init_91 : decode cX8_init 91 = .ok (.new 59, 3) := by decide +kernel
theorem dX8_init_94 : decode cX8_init 94 = .ok (.dup, 1) := by decide +kernel
theorem dX8_init_95 : decode cX8_init 95 = .ok (.bipush 99, 2) := by decide +kernel
theorem dX8_init_97 : decode cX8_init 97 = .ok (.bipush 10, 2) := by decide +kernel
theorem dX8_init_99 : decode cX8_init 99 = .ok (.invokespecial 61, 3) := by decide +kernel
theorem dX8_init_102 : decode cX8_init 102 = .ok (.putfield 64, 3) := by decide +kernel
theorem dX8_init_105 : decode cX8_init 105 = .ok (.aload_n 0, 1) := by decide +kernel
theorem dX8_init_106 : decode cX8_init 106 = .ok (.getfield 18, 3) := by decide +kernel
theorem dX8_init_109 : decode cX8_init 109 = .ok (.aload_n 0, 1) := by decide +kernel
theorem dX8_init_110 : decode cX8_init 110 = .ok (.getfield 12, 3) := by decide +kernel
theorem dX8_init_113 : decode cX8_init 113 = .ok (.getfield 64, 3) := by decide +kernel
theorem dX8_init_116 : decode cX8_init 116 = .ok (.putfield 64, 3) := by decide +kernel
theorem dX8_init_119 : decode cX8_init 119 = .ok (.iconst 0, 1) := by decide +kernel
theorem dX8_init_120 : decode cX8_init 120 = .ok (.istore_n 1, 1) := by decide +kernel
theorem dX8_init_121 : decode cX8_init 121 = .ok (.iload_n 1, 1) := by decide +kernel
theorem dX8_init_122 : decode cX8_init 122 = .ok (.bipush 6, 2) := by decide +kernel
theorem dX8_init_124 : decode cX8_init 124 = .ok (.if_icmp .ge 22, 3) := by decide +kernel
theorem dX8_init_127 : decode cX8_init 127 = .ok (.aload_n 0, 1) := by decide +kernel
theorem dX8_init_128 : decode cX8_init 128 = .ok (.getfield 37, 3) := by decide +kernel
theorem dX8_init_131 : decode cX8_init 131 = .ok (.iload_n 1, 1) := by decide +kernel
theorem dX8_init_132 : decode cX8_init 132 = .ok (.new 35, 3) := by decide +kernel
theorem dX8_init_135 : decode cX8_init 135 = .ok (.dup, 1) := by decide +kernel
theorem dX8_init_136 : decode cX8_init 136 = .ok (.invokespecial 68, 3) := by decide +kernel
theorem dX8_init_139 : decode cX8_init 139 = .ok (.aastore, 1) := by decide +kernel
theorem dX8_init_140 : decode cX8_init 140 = .ok (.iinc 1 1, 3) := by decide +kernel
theorem dX8_init_143 : decode cX8_init 143 = .ok (.goto (-22), 3) := by decide +kernel
theorem dX8_init_146 : decode cX8_init 146 = .ok (.return_, 1) := by decide +kernel
theorem dX8_walker_0 : decode cX8_walker 0 = .ok (.iload_n 1, 1) := by decide +kernel
theorem dX8_walker_1 : decode cX8_walker 1 = .ok (.bipush 7, 2) := by decide +kernel
theorem dX8_walker_3 : decode cX8_walker 3 = .ok (.invokestatic 69, 3) := by decide +kernel
theorem dX8_walker_6 : decode cX8_walker 6 = .ok (.ifCond .ne 5, 3) := by decide +kernel
theorem dX8_walker_9 : decode cX8_walker 9 = .ok (.iconst (-1), 1) := by decide +kernel
theorem dX8_walker_10 : decode cX8_walker 10 = .ok (.ireturn, 1) := by decide +kernel
theorem dX8_walker_11 : decode cX8_walker 11 = .ok (.iload_n 2, 1) := by decide +kernel
theorem dX8_walker_12 : decode cX8_walker 12 = .ok (.bipush 10, 2) := by decide +kernel
theorem dX8_walker_14 : decode cX8_walker 14 = .ok (.invokestatic 69, 3) := by decide +kernel
theorem dX8_walker_17 : decode cX8_walker 17 = .ok (.ifCond .eq 12, 3) := by decide +kernel
theorem dX8_walker_20 : decode cX8_walker 20 = .ok (.iload_n 3, 1) := by decide +kernel
theorem dX8_walker_21 : decode cX8_walker 21 = .ok (.bipush 100, 2) := by decide +kernel
theorem dX8_walker_23 : decode cX8_walker 23 = .ok (.invokestatic 69, 3) := by decide +kernel
theorem dX8_walker_26 : decode cX8_walker 26 = .ok (.ifCond .ne 6, 3) := by decide +kernel
theorem dX8_walker_29 : decode cX8_walker 29 = .ok (.bipush (-2), 2) := by decide +kernel
theorem dX8_walker_31 : decode cX8_walker 31 = .ok (.ireturn, 1) := by decide +kernel
theorem dX8_walker_32 : decode cX8_walker 32 = .ok (.aload_n 0, 1) := by decide +kernel
theorem dX8_walker_33 : decode cX8_walker 33 = .ok (.getfield 12, 3) := by decide +kernel
theorem dX8_walker_36 : decode cX8_walker 36 = .ok (.getfield 73, 3) := by decide +kernel
theorem dX8_walker_39 : decode cX8_walker 39 = .ok (.iconst 5, 1) := by decide +kernel
theorem dX8_walker_40 : decode cX8_walker 40 = .ok (.if_icmp .lt 6, 3) := by decide +kernel
theorem dX8_walker_43 : decode cX8_walker 43 = .ok (.bipush (-4), 2) := by decide +kernel
theorem dX8_walker_45 : decode cX8_walker 45 = .ok (.ireturn, 1) := by decide +kernel
theorem dX8_walker_46 : decode cX8_walker 46 = .ok (.aload_n 0, 1) := by decide +kernel
theorem dX8_walker_47 : decode cX8_walker 47 = .ok (.getfield 12, 3) := by decide +kernel
theorem dX8_walker_50 : decode cX8_walker 50 = .ok (.getfield 77, 3) := by decide +kernel
theorem dX8_walker_53 : decode cX8_walker 53 = .ok (.aload_n 0, 1) := by decide +kernel
theorem dX8_walker_54 : decode cX8_walker 54 = .ok (.getfield 12, 3) := by decide +kernel
theorem dX8_walker_57 : decode cX8_walker 57 = .ok (.getfield 73, 3) := by decide +kernel
theorem dX8_walker_60 : decode cX8_walker 60 = .ok (.aaload, 1) := by decide +kernel
theorem dX8_walker_61 : decode cX8_walker 61 = .ok (.iload_n 1, 1) := by decide +kernel
theorem dX8_walker_62 : decode cX8_walker 62 = .ok (.iload_n 2, 1) := by decide +kernel
theorem dX8_walker_63 : decode cX8_walker 63 = .ok (.iload_n 3, 1) := by decide +kernel
theorem dX8_walker_64 : decode cX8_walker 64 = .ok (.invokevirtual 81, 3) := by decide +kernel
theorem dX8_walker_67 : decode cX8_walker 67 = .ok (.aload_n 0, 1) := by decide +kernel
theorem dX8_walker_68 : decode cX8_walker 68 = .ok (.getfield 12, 3) := by decide +kernel
theorem dX8_walker_71 : decode cX8_walker 71 = .ok (.dup, 1) := by decide +kernel
theorem dX8_walker_72 : decode cX8_walker 72 = .ok (.getfield 73, 3) := by decide +kernel
theorem dX8_walker_75 : decode cX8_walker 75 = .ok (.iconst 1, 1) := by decide +kernel
theorem dX8_walker_76 : decode cX8_walker 76 = .ok (.iadd, 1) := by decide +kernel
theorem dX8_walker_77 : decode cX8_walker 77 = .ok (.putfield 73, 3) := by decide +kernel
theorem dX8_walker_80 : decode cX8_walker 80 = .ok (.aload_n 0, 1) := by decide +kernel
theorem dX8_walker_81 : decode cX8_walker 81 = .ok (.getfield 12, 3) := by decide +kernel
theorem dX8_walker_84 : decode cX8_walker 84 = .ok (.getfield 73, 3) := by decide +kernel
theorem dX8_walker_87 : decode cX8_walker 87 = .ok (.iconst 1, 1) := by decide +kernel
theorem dX8_walker_88 : decode cX8_walker 88 = .ok (.isub, 1) := by decide +kernel
theorem dX8_walker_89 : decode cX8_walker 89 = .ok (.ireturn, 1) := by decide +kernel
theorem dX8_of_0 : decode cX8_of 0 = .ok (.aload_n 0, 1) := by decide +kernel
theorem dX8_of_1 : decode cX8_of 1 = .ok (.getfield 12, 3) := by decide +kernel
theorem dX8_of_4 : decode cX8_of 4 = .ok (.iload_n 1, 1) := by decide +kernel
theorem dX8_of_5 : decode cX8_of 5 = .ok (.invokevirtual 85, 3) := by decide +kernel
theorem dX8_of_8 : decode cX8_of 8 = .ok (.astore_n 3, 1) := by decide +kernel
theorem dX8_of_9 : decode cX8_of 9 = .ok (.aload_n 3, 1) := by decide +kernel
theorem dX8_of_10 : decode cX8_of 10 = .ok (.ifnonnull 5, 3) := by decide +kernel
theorem dX8_of_13 : decode cX8_of 13 = .ok (.iconst (-1), 1) := by decide +kernel
theorem dX8_of_14 : decode cX8_of 14 = .ok (.ireturn, 1) := by decide +kernel
theorem dX8_of_15 : decode cX8_of 15 = .ok (.iload_n 2, 1) := by decide +kernel
theorem dX8_of_16 : decode cX8_of 16 = .ok (.ifCond .ne 8, 3) := by decide +kernel
theorem dX8_of_19 : decode cX8_of 19 = .ok (.aload_n 3, 1) := by decide +kernel
theorem dX8_of_20 : decode cX8_of 20 = .ok (.getfield 89, 3) := by decide +kernel
theorem dX8_of_23 : decode cX8_of 23 = .ok (.ireturn, 1) := by decide +kernel
theorem dX8_of_24 : decode cX8_of 24 = .ok (.iload_n 2, 1) := by decide +kernel
theorem dX8_of_25 : decode cX8_of 25 = .ok (.iconst 1, 1) := by decide +kernel
theorem dX8_of_26 : decode cX8_of 26 = .ok (.if_icmp .ne 8, 3) := by decide +kernel
theorem dX8_of_29 : decode cX8_of 29 = .ok (.aload_n 3, 1) := by decide +kernel
theorem dX8_of_30 : decode cX8_of 30 = .ok (.getfield 92, 3) := by decide +kernel
theorem dX8_of_33 : decode cX8_of 33 = .ok (.ireturn, 1) := by decide +kernel
theorem dX8_of_34 : decode cX8_of 34 = .ok (.iload_n 2, 1) := by decide +kernel
theorem dX8_of_35 : decode cX8_of 35 = .ok (.iconst 2, 1) := by decide +kernel
theorem dX8_of_36 : decode cX8_of 36 = .ok (.if_icmp .ne 8, 3) := by decide +kernel
theorem dX8_of_39 : decode cX8_of 39 = .ok (.aload_n 3, 1) := by decide +kernel
theorem dX8_of_40 : decode cX8_of 40 = .ok (.getfield 95, 3) := by decide +kernel
theorem dX8_of_43 : decode cX8_of 43 = .ok (.ireturn, 1) := by decide +kernel
theorem dX8_of_44 : decode cX8_of 44 = .ok (.iload_n 2, 1) := by decide +kernel
theorem dX8_of_45 : decode cX8_of 45 = .ok (.iconst 3, 1) := by decide +kernel
theorem dX8_of_46 : decode cX8_of 46 = .ok (.if_icmp .ne 25, 3) := by decide +kernel
theorem dX8_of_49 : decode cX8_of 49 = .ok (.aload_n 3, 1) := by decide +kernel
theorem dX8_of_50 : decode cX8_of 50 = .ok (.aload_n 0, 1) := by decide +kernel
theorem dX8_of_51 : decode cX8_of 51 = .ok (.getfield 12, 3) := by decide +kernel
theorem dX8_of_54 : decode cX8_of 54 = .ok (.getfield 98, 3) := by decide +kernel
theorem dX8_of_57 : decode cX8_of 57 = .ok (.aload_n 0, 1) := by decide +kernel
theorem dX8_of_58 : decode cX8_of 58 = .ok (.getfield 12, 3) := by decide +kernel
theorem dX8_of_61 : decode cX8_of 61 = .ok (.getfield 64, 3) := by decide +kernel
theorem dX8_of_64 : decode cX8_of 64 = .ok (.getfield 101, 3) := by decide +kernel
theorem dX8_of_67 : decode cX8_of 67 = .ok (.invokevirtual 104, 3) := by decide +kernel
theorem dX8_of_70 : decode cX8_of 70 = .ok (.ireturn, 1) := by decide +kernel
theorem dX8_of_71 : decode cX8_of 71 = .ok (.iload_n 2, 1) := by decide +kernel
theorem dX8_of_72 : decode cX8_of 72 = .ok (.bipush 10, 2) := by decide +kernel
theorem dX8_of_74 : decode cX8_of 74 = .ok (.if_icmp .lt 21, 3) := by decide +kernel
theorem dX8_of_77 : decode cX8_of 77 = .ok (.iload_n 2, 1) := by decide +kernel
theorem dX8_of_78 : decode cX8_of 78 = .ok (.bipush 26, 2) := by decide +kernel
theorem dX8_of_80 : decode cX8_of 80 = .ok (.if_icmp .ge 15, 3) := by decide +kernel
theorem dX8_of_83 : decode cX8_of 83 = .ok (.aload_n 3, 1) := by decide +kernel
theorem dX8_of_84 : decode cX8_of 84 = .ok (.iload_n 2, 1) := by decide +kernel
theorem dX8_of_85 : decode cX8_of 85 = .ok (.bipush 10, 2) := by decide +kernel
theorem dX8_of_87 : decode cX8_of 87 = .ok (.isub, 1) := by decide +kernel
theorem dX8_of_88 : decode cX8_of 88 = .ok (.invokestatic 108, 3) := by decide +kernel
theorem dX8_of_91 : decode cX8_of 91 = .ok (.invokevirtual 112, 3) := by decide +kernel
theorem dX8_of_94 : decode cX8_of 94 = .ok (.ireturn, 1) := by decide +kernel
theorem dX8_of_95 : decode cX8_of 95 = .ok (.iconst (-1), 1) := by decide +kernel
theorem dX8_of_96 : decode cX8_of 96 = .ok (.ireturn, 1) := by decide +kernel
theorem dX8_at_0 : decode cX8_at 0 = .ok (.sipush (-1001), 3) := by decide +kernel
theorem dX8_at_3 : decode cX8_at 3 = .ok (.istore_n 3, 1) := by decide +kernel
theorem dX8_at_4 : decode cX8_at 4 = .ok (.iload_n 1, 1) := by decide +kernel
theorem dX8_at_5 : decode cX8_at 5 = .ok (.bipush 16, 2) := by decide +kernel
theorem dX8_at_7 : decode cX8_at 7 = .ok (.invokestatic 69, 3) := by decide +kernel
theorem dX8_at_10 : decode cX8_at 10 = .ok (.ifCond .ne 5, 3) := by decide +kernel
theorem dX8_at_13 : decode cX8_at 13 = .ok (.iload_n 3, 1) := by decide +kernel
theorem dX8_at_14 : decode cX8_at 14 = .ok (.ireturn, 1) := by decide +kernel
theorem dX8_at_15 : decode cX8_at 15 = .ok (.iload_n 2, 1) := by decide +kernel
theorem dX8_at_16 : decode cX8_at 16 = .ok (.ifCond .ne 16, 3) := by decide +kernel
theorem dX8_at_19 : decode cX8_at 19 = .ok (.aload_n 0, 1) := by decide +kernel
theorem dX8_at_20 : decode cX8_at 20 = .ok (.getfield 12, 3) := by decide +kernel
theorem dX8_at_23 : decode cX8_at 23 = .ok (.getfield 98, 3) := by decide +kernel
theorem dX8_at_26 : decode cX8_at 26 = .ok (.getfield 115, 3) := by decide +kernel
theorem dX8_at_29 : decode cX8_at 29 = .ok (.iload_n 1, 1) := by decide +kernel
theorem dX8_at_30 : decode cX8_at 30 = .ok (.iaload, 1) := by decide +kernel
theorem dX8_at_31 : decode cX8_at 31 = .ok (.ireturn, 1) := by decide +kernel
theorem dX8_at_32 : decode cX8_at 32 = .ok (.iload_n 2, 1) := by decide +kernel
theorem dX8_at_33 : decode cX8_at 33 = .ok (.iconst 1, 1) := by decide +kernel
theorem dX8_at_34 : decode cX8_at 34 = .ok (.if_icmp .ne 37, 3) := by decide +kernel
theorem dX8_at_37 : decode cX8_at 37 = .ok (.aload_n 0, 1) := by decide +kernel
theorem dX8_at_38 : decode cX8_at 38 = .ok (.getfield 12, 3) := by decide +kernel
theorem dX8_at_41 : decode cX8_at 41 = .ok (.getfield 64, 3) := by decide +kernel
theorem dX8_at_44 : decode cX8_at 44 = .ok (.iload_n 1, 1) := by decide +kernel
theorem dX8_at_45 : decode cX8_at 45 = .ok (.aload_n 0, 1) := by decide +kernel
theorem dX8_at_46 : decode cX8_at 46 = .ok (.getfield 12, 3) := by decide +kernel
theorem dX8_at_49 : decode cX8_at 49 = .ok (.getfield 98, 3) := by decide +kernel
theorem dX8_at_52 : decode cX8_at 52 = .ok (.getfield 115, 3) := by decide +kernel
theorem dX8_at_55 : decode cX8_at 55 = .ok (.iload_n 1, 1) := by decide +kernel
theorem dX8_at_56 : decode cX8_at 56 = .ok (.iaload, 1) := by decide +kernel
theorem dX8_at_57 : decode cX8_at 57 = .ok (.aload_n 0, 1) := by decide +kernel
theorem dX8_at_58 : decode cX8_at 58 = .ok (.getfield 12, 3) := by decide +kernel
theorem dX8_at_61 : decode cX8_at 61 = .ok (.getfield 98, 3) := by decide +kernel
theorem dX8_at_64 : decode cX8_at 64 = .ok (.getfield 119, 3) := by decide +kernel
theorem dX8_at_67 : decode cX8_at 67 = .ok (.invokevirtual 122, 3) := by decide +kernel
theorem dX8_at_70 : decode cX8_at 70 = .ok (.ireturn, 1) := by decide +kernel
theorem dX8_at_71 : decode cX8_at 71 = .ok (.iload_n 2, 1) := by decide +kernel
theorem dX8_at_72 : decode cX8_at 72 = .ok (.iconst 2, 1) := by decide +kernel
theorem dX8_at_73 : decode cX8_at 73 = .ok (.if_icmp .ne 14, 3) := by decide +kernel
theorem dX8_at_76 : decode cX8_at 76 = .ok (.aload_n 0, 1) := by decide +kernel
theorem dX8_at_77 : decode cX8_at 77 = .ok (.getfield 12, 3) := by decide +kernel
theorem dX8_at_80 : decode cX8_at 80 = .ok (.iconst 1, 1) := by decide +kernel
theorem dX8_at_81 : decode cX8_at 81 = .ok (.iload_n 1, 1) := by decide +kernel
theorem dX8_at_82 : decode cX8_at 82 = .ok (.ishl, 1) := by decide +kernel
theorem dX8_at_83 : decode cX8_at 83 = .ok (.invokevirtual 126, 3) := by decide +kernel
theorem dX8_at_86 : decode cX8_at 86 = .ok (.ireturn, 1) := by decide +kernel
theorem dX8_at_87 : decode cX8_at 87 = .ok (.iload_n 3, 1) := by decide +kernel
theorem dX8_at_88 : decode cX8_at 88 = .ok (.ireturn, 1) := by decide +kernel
theorem dX8_set_0 : decode cX8_set 0 = .ok (.iload_n 1, 1) := by decide +kernel
theorem dX8_set_1 : decode cX8_set 1 = .ok (.bipush 16, 2) := by decide +kernel
theorem dX8_set_3 : decode cX8_set 3 = .ok (.invokestatic 69, 3) := by decide +kernel
theorem dX8_set_6 : decode cX8_set 6 = .ok (.ifCond .ne 5, 3) := by decide +kernel
theorem dX8_set_9 : decode cX8_set 9 = .ok (.iconst (-1), 1) := by decide +kernel
theorem dX8_set_10 : decode cX8_set 10 = .ok (.ireturn, 1) := by decide +kernel
theorem dX8_set_11 : decode cX8_set 11 = .ok (.iload_n 2, 1) := by decide +kernel
theorem dX8_set_12 : decode cX8_set 12 = .ok (.bipush 100, 2) := by decide +kernel
theorem dX8_set_14 : decode cX8_set 14 = .ok (.invokestatic 69, 3) := by decide +kernel
theorem dX8_set_17 : decode cX8_set 17 = .ok (.ifCond .ne 6, 3) := by decide +kernel
theorem dX8_set_20 : decode cX8_set 20 = .ok (.bipush (-2), 2) := by decide +kernel
theorem dX8_set_22 : decode cX8_set 22 = .ok (.ireturn, 1) := by decide +kernel
theorem dX8_set_23 : decode cX8_set 23 = .ok (.aload_n 0, 1) := by decide +kernel
theorem dX8_set_24 : decode cX8_set 24 = .ok (.getfield 12, 3) := by decide +kernel
theorem dX8_set_27 : decode cX8_set 27 = .ok (.getfield 98, 3) := by decide +kernel
theorem dX8_set_30 : decode cX8_set 30 = .ok (.getfield 115, 3) := by decide +kernel
theorem dX8_set_33 : decode cX8_set 33 = .ok (.iload_n 1, 1) := by decide +kernel
theorem dX8_set_34 : decode cX8_set 34 = .ok (.iaload, 1) := by decide +kernel
theorem dX8_set_35 : decode cX8_set 35 = .ok (.istore_n 3, 1) := by decide +kernel
theorem dX8_set_36 : decode cX8_set 36 = .ok (.aload_n 0, 1) := by decide +kernel
theorem dX8_set_37 : decode cX8_set 37 = .ok (.getfield 12, 3) := by decide +kernel
theorem dX8_set_40 : decode cX8_set 40 = .ok (.getfield 98, 3) := by decide +kernel
theorem dX8_set_43 : decode cX8_set 43 = .ok (.getfield 115, 3) := by decide +kernel
theorem dX8_set_46 : decode cX8_set 46 = .ok (.iload_n 1, 1) := by decide +kernel
theorem dX8_set_47 : decode cX8_set 47 = .ok (.iload_n 2, 1) := by decide +kernel
theorem dX8_set_48 : decode cX8_set 48 = .ok (.iastore, 1) := by decide +kernel
theorem dX8_set_49 : decode cX8_set 49 = .ok (.iload_n 3, 1) := by decide +kernel
theorem dX8_set_50 : decode cX8_set 50 = .ok (.ireturn, 1) := by decide +kernel
theorem dX8_weigh_0 : decode cX8_weigh 0 = .ok (.aload_n 0, 1) := by decide +kernel
theorem dX8_weigh_1 : decode cX8_weigh 1 = .ok (.getfield 12, 3) := by decide +kernel
theorem dX8_weigh_4 : decode cX8_weigh 4 = .ok (.iload_n 1, 1) := by decide +kernel
theorem dX8_weigh_5 : decode cX8_weigh 5 = .ok (.invokevirtual 85, 3) := by decide +kernel
theorem dX8_weigh_8 : decode cX8_weigh 8 = .ok (.astore_n 3, 1) := by decide +kernel
theorem dX8_weigh_9 : decode cX8_weigh 9 = .ok (.aload_n 3, 1) := by decide +kernel
theorem dX8_weigh_10 : decode cX8_weigh 10 = .ok (.ifnonnull 5, 3) := by decide +kernel
theorem dX8_weigh_13 : decode cX8_weigh 13 = .ok (.iconst (-1), 1) := by decide +kernel
theorem dX8_weigh_14 : decode cX8_weigh 14 = .ok (.ireturn, 1) := by decide +kernel
theorem dX8_weigh_15 : decode cX8_weigh 15 = .ok (.iload_n 2, 1) := by decide +kernel
theorem dX8_weigh_16 : decode cX8_weigh 16 = .ok (.bipush 100, 2) := by decide +kernel
theorem dX8_weigh_18 : decode cX8_weigh 18 = .ok (.invokestatic 69, 3) := by decide +kernel
theorem dX8_weigh_21 : decode cX8_weigh 21 = .ok (.ifCond .ne 6, 3) := by decide +kernel
theorem dX8_weigh_24 : decode cX8_weigh 24 = .ok (.bipush (-2), 2) := by decide +kernel
theorem dX8_weigh_26 : decode cX8_weigh 26 = .ok (.ireturn, 1) := by decide +kernel
theorem dX8_weigh_27 : decode cX8_weigh 27 = .ok (.aload_n 3, 1) := by decide +kernel
theorem dX8_weigh_28 : decode cX8_weigh 28 = .ok (.getfield 95, 3) := by decide +kernel
theorem dX8_weigh_31 : decode cX8_weigh 31 = .ok (.istore 4, 2) := by decide +kernel
theorem dX8_weigh_33 : decode cX8_weigh 33 = .ok (.aload_n 3, 1) := by decide +kernel
theorem dX8_weigh_34 : decode cX8_weigh 34 = .ok (.iload_n 2, 1) := by decide +kernel
theorem dX8_weigh_35 : decode cX8_weigh 35 = .ok (.putfield 95, 3) := by decide +kernel
theorem dX8_weigh_38 : decode cX8_weigh 38 = .ok (.iload 4, 2) := by decide +kernel
theorem dX8_weigh_40 : decode cX8_weigh 40 = .ok (.ireturn, 1) := by decide +kernel
theorem dX8_line_0 : decode cX8_line 0 = .ok (.aload_n 0, 1) := by decide +kernel
theorem dX8_line_1 : decode cX8_line 1 = .ok (.getfield 12, 3) := by decide +kernel
theorem dX8_line_4 : decode cX8_line 4 = .ok (.iload_n 1, 1) := by decide +kernel
theorem dX8_line_5 : decode cX8_line 5 = .ok (.invokevirtual 85, 3) := by decide +kernel
theorem dX8_line_8 : decode cX8_line 8 = .ok (.astore 4, 2) := by decide +kernel
theorem dX8_line_10 : decode cX8_line 10 = .ok (.aload 4, 2) := by decide +kernel
theorem dX8_line_12 : decode cX8_line 12 = .ok (.ifnull 11, 3) := by decide +kernel
theorem dX8_line_15 : decode cX8_line 15 = .ok (.iload_n 2, 1) := by decide +kernel
theorem dX8_line_16 : decode cX8_line 16 = .ok (.iconst 4, 1) := by decide +kernel
theorem dX8_line_17 : decode cX8_line 17 = .ok (.invokestatic 69, 3) := by decide +kernel
theorem dX8_line_20 : decode cX8_line 20 = .ok (.ifCond .ne 5, 3) := by decide +kernel
theorem dX8_line_23 : decode cX8_line 23 = .ok (.iconst (-1), 1) := by decide +kernel
theorem dX8_line_24 : decode cX8_line 24 = .ok (.ireturn, 1) := by decide +kernel
theorem dX8_line_25 : decode cX8_line 25 = .ok (.iload_n 3, 1) := by decide +kernel
theorem dX8_line_26 : decode cX8_line 26 = .ok (.bipush 10, 2) := by decide +kernel
theorem dX8_line_28 : decode cX8_line 28 = .ok (.invokestatic 69, 3) := by decide +kernel
theorem dX8_line_31 : decode cX8_line 31 = .ok (.ifCond .ne 6, 3) := by decide +kernel
theorem dX8_line_34 : decode cX8_line 34 = .ok (.bipush (-2), 2) := by decide +kernel
theorem dX8_line_36 : decode cX8_line 36 = .ok (.ireturn, 1) := by decide +kernel
theorem dX8_line_37 : decode cX8_line 37 = .ok (.aload 4, 2) := by decide +kernel
theorem dX8_line_39 : decode cX8_line 39 = .ok (.getfield 89, 3) := by decide +kernel
theorem dX8_line_42 : decode cX8_line 42 = .ok (.bipush 6, 2) := by decide +kernel
theorem dX8_line_44 : decode cX8_line 44 = .ok (.if_icmp .eq 6, 3) := by decide +kernel
theorem dX8_line_47 : decode cX8_line 47 = .ok (.bipush (-3), 2) := by decide +kernel
theorem dX8_line_49 : decode cX8_line 49 = .ok (.ireturn, 1) := by decide +kernel
theorem dX8_line_50 : decode cX8_line 50 = .ok (.aload 4, 2) := by decide +kernel
theorem dX8_line_52 : decode cX8_line 52 = .ok (.getfield 129, 3) := by decide +kernel
theorem dX8_line_55 : decode cX8_line 55 = .ok (.iload_n 2, 1) := by decide +kernel
theorem dX8_line_56 : decode cX8_line 56 = .ok (.iaload, 1) := by decide +kernel
theorem dX8_line_57 : decode cX8_line 57 = .ok (.istore 5, 2) := by decide +kernel
theorem dX8_line_59 : decode cX8_line 59 = .ok (.aload 4, 2) := by decide +kernel
theorem dX8_line_61 : decode cX8_line 61 = .ok (.getfield 129, 3) := by decide +kernel
theorem dX8_line_64 : decode cX8_line 64 = .ok (.iload_n 2, 1) := by decide +kernel
theorem dX8_line_65 : decode cX8_line 65 = .ok (.iload_n 3, 1) := by decide +kernel
theorem dX8_line_66 : decode cX8_line 66 = .ok (.iastore, 1) := by decide +kernel
theorem dX8_line_67 : decode cX8_line 67 = .ok (.iload 5, 2) := by decide +kernel
theorem dX8_line_69 : decode cX8_line 69 = .ok (.ireturn, 1) := by decide +kernel
theorem dX8_milk_0 : decode cX8_milk 0 = .ok (.iload_n 1, 1) := by decide +kernel
theorem dX8_milk_1 : decode cX8_milk 1 = .ok (.bipush 16, 2) := by decide +kernel
theorem dX8_milk_3 : decode cX8_milk 3 = .ok (.invokestatic 69, 3) := by decide +kernel
theorem dX8_milk_6 : decode cX8_milk 6 = .ok (.ifCond .ne 5, 3) := by decide +kernel
theorem dX8_milk_9 : decode cX8_milk 9 = .ok (.iconst (-1), 1) := by decide +kernel
theorem dX8_milk_10 : decode cX8_milk 10 = .ok (.ireturn, 1) := by decide +kernel
theorem dX8_milk_11 : decode cX8_milk 11 = .ok (.aload_n 0, 1) := by decide +kernel
theorem dX8_milk_12 : decode cX8_milk 12 = .ok (.getfield 12, 3) := by decide +kernel
theorem dX8_milk_15 : decode cX8_milk 15 = .ok (.getfield 98, 3) := by decide +kernel
theorem dX8_milk_18 : decode cX8_milk 18 = .ok (.iload_n 1, 1) := by decide +kernel
theorem dX8_milk_19 : decode cX8_milk 19 = .ok (.aload_n 0, 1) := by decide +kernel
theorem dX8_milk_20 : decode cX8_milk 20 = .ok (.getfield 12, 3) := by decide +kernel
theorem dX8_milk_23 : decode cX8_milk 23 = .ok (.getfield 64, 3) := by decide +kernel
theorem dX8_milk_26 : decode cX8_milk 26 = .ok (.getfield 132, 3) := by decide +kernel
theorem dX8_milk_29 : decode cX8_milk 29 = .ok (.invokevirtual 135, 3) := by decide +kernel
theorem dX8_milk_32 : decode cX8_milk 32 = .ok (.aload_n 0, 1) := by decide +kernel
theorem dX8_milk_33 : decode cX8_milk 33 = .ok (.getfield 12, 3) := by decide +kernel
theorem dX8_milk_36 : decode cX8_milk 36 = .ok (.getfield 98, 3) := by decide +kernel
theorem dX8_milk_39 : decode cX8_milk 39 = .ok (.getfield 115, 3) := by decide +kernel
theorem dX8_milk_42 : decode cX8_milk 42 = .ok (.iload_n 1, 1) := by decide +kernel
theorem dX8_milk_43 : decode cX8_milk 43 = .ok (.iaload, 1) := by decide +kernel
theorem dX8_milk_44 : decode cX8_milk 44 = .ok (.ireturn, 1) := by decide +kernel
theorem dX8_stir_0 : decode cX8_stir 0 = .ok (.iload_n 1, 1) := by decide +kernel
theorem dX8_stir_1 : decode cX8_stir 1 = .ok (.bipush 16, 2) := by decide +kernel
theorem dX8_stir_3 : decode cX8_stir 3 = .ok (.invokestatic 69, 3) := by decide +kernel
theorem dX8_stir_6 : decode cX8_stir 6 = .ok (.ifCond .eq 12, 3) := by decide +kernel
theorem dX8_stir_9 : decode cX8_stir 9 = .ok (.iload_n 2, 1) := by decide +kernel
theorem dX8_stir_10 : decode cX8_stir 10 = .ok (.bipush 16, 2) := by decide +kernel
theorem dX8_stir_12 : decode cX8_stir 12 = .ok (.invokestatic 69, 3) := by decide +kernel
theorem dX8_stir_15 : decode cX8_stir 15 = .ok (.ifCond .ne 5, 3) := by decide +kernel
theorem dX8_stir_18 : decode cX8_stir 18 = .ok (.iconst (-1), 1) := by decide +kernel
theorem dX8_stir_19 : decode cX8_stir 19 = .ok (.ireturn, 1) := by decide +kernel
theorem dX8_stir_20 : decode cX8_stir 20 = .ok (.iconst 1, 1) := by decide +kernel
theorem dX8_stir_21 : decode cX8_stir 21 = .ok (.iload_n 1, 1) := by decide +kernel
theorem dX8_stir_22 : decode cX8_stir 22 = .ok (.ishl, 1) := by decide +kernel
theorem dX8_stir_23 : decode cX8_stir 23 = .ok (.iconst 0, 1) := by decide +kernel
theorem dX8_stir_24 : decode cX8_stir 24 = .ok (.invokestatic 138, 3) := by decide +kernel
theorem dX8_stir_27 : decode cX8_stir 27 = .ok (.iconst 1, 1) := by decide +kernel
theorem dX8_stir_28 : decode cX8_stir 28 = .ok (.iload_n 2, 1) := by decide +kernel
theorem dX8_stir_29 : decode cX8_stir 29 = .ok (.ishl, 1) := by decide +kernel
theorem dX8_stir_30 : decode cX8_stir 30 = .ok (.iand, 1) := by decide +kernel
theorem dX8_stir_31 : decode cX8_stir 31 = .ok (.ifCond .ne 6, 3) := by decide +kernel
theorem dX8_stir_34 : decode cX8_stir 34 = .ok (.bipush (-2), 2) := by decide +kernel
theorem dX8_stir_36 : decode cX8_stir 36 = .ok (.ireturn, 1) := by decide +kernel
theorem dX8_stir_37 : decode cX8_stir 37 = .ok (.aload_n 0, 1) := by decide +kernel
theorem dX8_stir_38 : decode cX8_stir 38 = .ok (.getfield 12, 3) := by decide +kernel
theorem dX8_stir_41 : decode cX8_stir 41 = .ok (.getfield 98, 3) := by decide +kernel
theorem dX8_stir_44 : decode cX8_stir 44 = .ok (.iload_n 1, 1) := by decide +kernel
theorem dX8_stir_45 : decode cX8_stir 45 = .ok (.iload_n 2, 1) := by decide +kernel
theorem dX8_stir_46 : decode cX8_stir 46 = .ok (.invokevirtual 142, 3) := by decide +kernel
theorem dX8_stir_49 : decode cX8_stir 49 = .ok (.aload_n 0, 1) := by decide +kernel
theorem dX8_stir_50 : decode cX8_stir 50 = .ok (.getfield 12, 3) := by decide +kernel
theorem dX8_stir_53 : decode cX8_stir 53 = .ok (.getfield 98, 3) := by decide +kernel
theorem dX8_stir_56 : decode cX8_stir 56 = .ok (.getfield 115, 3) := by decide +kernel
theorem dX8_stir_59 : decode cX8_stir 59 = .ok (.iload_n 1, 1) := by decide +kernel
theorem dX8_stir_60 : decode cX8_stir 60 = .ok (.iaload, 1) := by decide +kernel
theorem dX8_stir_61 : decode cX8_stir 61 = .ok (.ireturn, 1) := by decide +kernel
theorem dX8_feed_0 : decode cX8_feed 0 = .ok (.iload_n 1, 1) := by decide +kernel
theorem dX8_feed_1 : decode cX8_feed 1 = .ok (.sipush 128, 3) := by decide +kernel
theorem dX8_feed_4 : decode cX8_feed 4 = .ok (.invokestatic 69, 3) := by decide +kernel
theorem dX8_feed_7 : decode cX8_feed 7 = .ok (.ifCond .ne 6, 3) := by decide +kernel
theorem dX8_feed_10 : decode cX8_feed 10 = .ok (.bipush (-2), 2) := by decide +kernel
theorem dX8_feed_12 : decode cX8_feed 12 = .ok (.ireturn, 1) := by decide +kernel
theorem dX8_feed_13 : decode cX8_feed 13 = .ok (.aload_n 0, 1) := by decide +kernel
theorem dX8_feed_14 : decode cX8_feed 14 = .ok (.getfield 24, 3) := by decide +kernel
theorem dX8_feed_17 : decode cX8_feed 17 = .ok (.iload_n 1, 1) := by decide +kernel
theorem dX8_feed_18 : decode cX8_feed 18 = .ok (.i2c, 1) := by decide +kernel
theorem dX8_feed_19 : decode cX8_feed 19 = .ok (.invokevirtual 145, 3) := by decide +kernel
theorem dX8_feed_22 : decode cX8_feed 22 = .ok (.ifCond .ne 6, 3) := by decide +kernel
theorem dX8_feed_25 : decode cX8_feed 25 = .ok (.bipush (-4), 2) := by decide +kernel
theorem dX8_feed_27 : decode cX8_feed 27 = .ok (.ireturn, 1) := by decide +kernel
theorem dX8_feed_28 : decode cX8_feed 28 = .ok (.aload_n 0, 1) := by decide +kernel
theorem dX8_feed_29 : decode cX8_feed 29 = .ok (.getfield 24, 3) := by decide +kernel
theorem dX8_feed_32 : decode cX8_feed 32 = .ok (.getfield 149, 3) := by decide +kernel
theorem dX8_feed_35 : decode cX8_feed 35 = .ok (.ireturn, 1) := by decide +kernel
theorem dX8_brew_0 : decode cX8_brew 0 = .ok (.aload_n 0, 1) := by decide +kernel
theorem dX8_brew_1 : decode cX8_brew 1 = .ok (.getfield 152, 3) := by decide +kernel
theorem dX8_brew_4 : decode cX8_brew 4 = .ok (.bipush 6, 2) := by decide +kernel
theorem dX8_brew_6 : decode cX8_brew 6 = .ok (.if_icmp .lt 6, 3) := by decide +kernel
theorem dX8_brew_9 : decode cX8_brew 9 = .ok (.bipush (-4), 2) := by decide +kernel
theorem dX8_brew_11 : decode cX8_brew 11 = .ok (.ireturn, 1) := by decide +kernel
theorem dX8_brew_12 : decode cX8_brew 12 = .ok (.aload_n 0, 1) := by decide +kernel
theorem dX8_brew_13 : decode cX8_brew 13 = .ok (.getfield 24, 3) := by decide +kernel
theorem dX8_brew_16 : decode cX8_brew 16 = .ok (.iconst 0, 1) := by decide +kernel
theorem dX8_brew_17 : decode cX8_brew 17 = .ok (.iconst 0, 1) := by decide +kernel
theorem dX8_brew_18 : decode cX8_brew 18 = .ok (.invokevirtual 155, 3) := by decide +kernel
theorem dX8_brew_21 : decode cX8_brew 21 = .ok (.istore_n 1, 1) := by decide +kernel
theorem dX8_brew_22 : decode cX8_brew 22 = .ok (.iload_n 1, 1) := by decide +kernel
theorem dX8_brew_23 : decode cX8_brew 23 = .ok (.ifCond .lt 16, 3) := by decide +kernel
theorem dX8_brew_26 : decode cX8_brew 26 = .ok (.aload_n 0, 1) := by decide +kernel
theorem dX8_brew_27 : decode cX8_brew 27 = .ok (.getfield 24, 3) := by decide +kernel
theorem dX8_brew_30 : decode cX8_brew 30 = .ok (.iconst 0, 1) := by decide +kernel
theorem dX8_brew_31 : decode cX8_brew 31 = .ok (.putfield 149, 3) := by decide +kernel
theorem dX8_brew_34 : decode cX8_brew 34 = .ok (.bipush (-10), 2) := by decide +kernel
theorem dX8_brew_36 : decode cX8_brew 36 = .ok (.iload_n 1, 1) := by decide +kernel
theorem dX8_brew_37 : decode cX8_brew 37 = .ok (.isub, 1) := by decide +kernel
theorem dX8_brew_38 : decode cX8_brew 38 = .ok (.ireturn, 1) := by decide +kernel
theorem dX8_brew_39 : decode cX8_brew 39 = .ok (.new 59, 3) := by decide +kernel
theorem dX8_brew_42 : decode cX8_brew 42 = .ok (.dup, 1) := by decide +kernel
theorem dX8_brew_43 : decode cX8_brew 43 = .ok (.aload_n 0, 1) := by decide +kernel
theorem dX8_brew_44 : decode cX8_brew 44 = .ok (.getfield 24, 3) := by decide +kernel
theorem dX8_brew_47 : decode cX8_brew 47 = .ok (.getfield 159, 3) := by decide +kernel
theorem dX8_brew_50 : decode cX8_brew 50 = .ok (.aload_n 0, 1) := by decide +kernel
theorem dX8_brew_51 : decode cX8_brew 51 = .ok (.getfield 24, 3) := by decide +kernel
theorem dX8_brew_54 : decode cX8_brew 54 = .ok (.getfield 160, 3) := by decide +kernel
theorem dX8_brew_57 : decode cX8_brew 57 = .ok (.invokespecial 61, 3) := by decide +kernel
theorem dX8_brew_60 : decode cX8_brew 60 = .ok (.astore_n 2, 1) := by decide +kernel
theorem dX8_brew_61 : decode cX8_brew 61 = .ok (.iconst 0, 1) := by decide +kernel
theorem dX8_brew_62 : decode cX8_brew 62 = .ok (.istore_n 3, 1) := by decide +kernel
theorem dX8_brew_63 : decode cX8_brew 63 = .ok (.iload_n 3, 1) := by decide +kernel
theorem dX8_brew_64 : decode cX8_brew 64 = .ok (.bipush 10, 2) := by decide +kernel
theorem dX8_brew_66 : decode cX8_brew 66 = .ok (.if_icmp .ge 50, 3) := by decide +kernel
theorem dX8_brew_69 : decode cX8_brew 69 = .ok (.iconst 0, 1) := by decide +kernel
theorem dX8_brew_70 : decode cX8_brew 70 = .ok (.istore 4, 2) := by decide +kernel
theorem dX8_brew_72 : decode cX8_brew 72 = .ok (.iload 4, 2) := by decide +kernel
theorem dX8_brew_74 : decode cX8_brew 74 = .ok (.bipush 10, 2) := by decide +kernel
theorem dX8_brew_76 : decode cX8_brew 76 = .ok (.if_icmp .ge 34, 3) := by decide +kernel
theorem dX8_brew_79 : decode cX8_brew 79 = .ok (.aload_n 0, 1) := by decide +kernel
theorem dX8_brew_80 : decode cX8_brew 80 = .ok (.getfield 24, 3) := by decide +kernel
theorem dX8_brew_83 : decode cX8_brew 83 = .ok (.iload 4, 2) := by decide +kernel
theorem dX8_brew_85 : decode cX8_brew 85 = .ok (.iload_n 3, 1) := by decide +kernel
theorem dX8_brew_86 : decode cX8_brew 86 = .ok (.invokevirtual 155, 3) := by decide +kernel
theorem dX8_brew_89 : decode cX8_brew 89 = .ok (.pop, 1) := by decide +kernel
theorem dX8_brew_90 : decode cX8_brew 90 = .ok (.aload_n 2, 1) := by decide +kernel
theorem dX8_brew_91 : decode cX8_brew 91 = .ok (.iload 4, 2) := by decide +kernel
theorem dX8_brew_93 : decode cX8_brew 93 = .ok (.iload_n 3, 1) := by decide +kernel
theorem dX8_brew_94 : decode cX8_brew 94 = .ok (.aload_n 0, 1) := by decide +kernel
theorem dX8_brew_95 : decode cX8_brew 95 = .ok (.getfield 24, 3) := by decide +kernel
theorem dX8_brew_98 : decode cX8_brew 98 = .ok (.getfield 161, 3) := by decide +kernel
theorem dX8_brew_101 : decode cX8_brew 101 = .ok (.invokevirtual 164, 3) := by decide +kernel
theorem dX8_brew_104 : decode cX8_brew 104 = .ok (.iinc 4 1, 3) := by decide +kernel
theorem dX8_brew_107 : decode cX8_brew 107 = .ok (.goto (-35), 3) := by decide +kernel
theorem dX8_brew_110 : decode cX8_brew 110 = .ok (.iinc 3 1, 3) := by decide +kernel
theorem dX8_brew_113 : decode cX8_brew 113 = .ok (.goto (-50), 3) := by decide +kernel
theorem dX8_brew_116 : decode cX8_brew 116 = .ok (.aload_n 0, 1) := by decide +kernel
theorem dX8_brew_117 : decode cX8_brew 117 = .ok (.getfield 12, 3) := by decide +kernel
theorem dX8_brew_120 : decode cX8_brew 120 = .ok (.aload_n 2, 1) := by decide +kernel
theorem dX8_brew_121 : decode cX8_brew 121 = .ok (.putfield 64, 3) := by decide +kernel
theorem dX8_brew_124 : decode cX8_brew 124 = .ok (.aload_n 0, 1) := by decide +kernel
theorem dX8_brew_125 : decode cX8_brew 125 = .ok (.getfield 24, 3) := by decide +kernel
theorem dX8_brew_128 : decode cX8_brew 128 = .ok (.iconst 0, 1) := by decide +kernel
theorem dX8_brew_129 : decode cX8_brew 129 = .ok (.putfield 149, 3) := by decide +kernel
theorem dX8_brew_132 : decode cX8_brew 132 = .ok (.aload_n 0, 1) := by decide +kernel
theorem dX8_brew_133 : decode cX8_brew 133 = .ok (.dup, 1) := by decide +kernel
theorem dX8_brew_134 : decode cX8_brew 134 = .ok (.getfield 152, 3) := by decide +kernel
theorem dX8_brew_137 : decode cX8_brew 137 = .ok (.iconst 1, 1) := by decide +kernel
theorem dX8_brew_138 : decode cX8_brew 138 = .ok (.iadd, 1) := by decide +kernel
theorem dX8_brew_139 : decode cX8_brew 139 = .ok (.putfield 152, 3) := by decide +kernel
theorem dX8_brew_142 : decode cX8_brew 142 = .ok (.aload_n 0, 1) := by decide +kernel
theorem dX8_brew_143 : decode cX8_brew 143 = .ok (.getfield 152, 3) := by decide +kernel
theorem dX8_brew_146 : decode cX8_brew 146 = .ok (.iconst 1, 1) := by decide +kernel
theorem dX8_brew_147 : decode cX8_brew 147 = .ok (.isub, 1) := by decide +kernel
theorem dX8_brew_148 : decode cX8_brew 148 = .ok (.ireturn, 1) := by decide +kernel
theorem dX8_told_0 : decode cX8_told 0 = .ok (.iload_n 1, 1) := by decide +kernel
theorem dX8_told_1 : decode cX8_told 1 = .ok (.tableswitch 133 0 5 #[39, 50, 81, 92, 107, 118], 39) := by decide +kernel
theorem dX8_told_40 : decode cX8_told 40 = .ok (.aload_n 0, 1) := by decide +kernel
theorem dX8_told_41 : decode cX8_told 41 = .ok (.getfield 12, 3) := by decide +kernel
theorem dX8_told_44 : decode cX8_told 44 = .ok (.getfield 98, 3) := by decide +kernel
theorem dX8_told_47 : decode cX8_told 47 = .ok (.getfield 119, 3) := by decide +kernel
theorem dX8_told_50 : decode cX8_told 50 = .ok (.ireturn, 1) := by decide +kernel
theorem dX8_told_51 : decode cX8_told 51 = .ok (.aload_n 0, 1) := by decide +kernel
theorem dX8_told_52 : decode cX8_told 52 = .ok (.getfield 12, 3) := by decide +kernel
theorem dX8_told_55 : decode cX8_told 55 = .ok (.getfield 64, 3) := by decide +kernel
theorem dX8_told_58 : decode cX8_told 58 = .ok (.getfield 101, 3) := by decide +kernel
theorem dX8_told_61 : decode cX8_told 61 = .ok (.bipush 16, 2) := by decide +kernel
theorem dX8_told_63 : decode cX8_told 63 = .ok (.if_icmp .ge 16, 3) := by decide +kernel
theorem dX8_told_66 : decode cX8_told 66 = .ok (.aload_n 0, 1) := by decide +kernel
theorem dX8_told_67 : decode cX8_told 67 = .ok (.getfield 12, 3) := by decide +kernel
theorem dX8_told_70 : decode cX8_told 70 = .ok (.getfield 64, 3) := by decide +kernel
theorem dX8_told_73 : decode cX8_told 73 = .ok (.getfield 101, 3) := by decide +kernel
theorem dX8_told_76 : decode cX8_told 76 = .ok (.goto 5, 3) := by decide +kernel
theorem dX8_told_79 : decode cX8_told 79 = .ok (.bipush (-5), 2) := by decide +kernel
theorem dX8_told_81 : decode cX8_told 81 = .ok (.ireturn, 1) := by decide +kernel
theorem dX8_told_82 : decode cX8_told 82 = .ok (.aload_n 0, 1) := by decide +kernel
theorem dX8_told_83 : decode cX8_told 83 = .ok (.getfield 12, 3) := by decide +kernel
theorem dX8_told_86 : decode cX8_told 86 = .ok (.getfield 64, 3) := by decide +kernel
theorem dX8_told_89 : decode cX8_told 89 = .ok (.getfield 132, 3) := by decide +kernel
theorem dX8_told_92 : decode cX8_told 92 = .ok (.ireturn, 1) := by decide +kernel
theorem dX8_told_93 : decode cX8_told 93 = .ok (.aload_n 0, 1) := by decide +kernel
theorem dX8_told_94 : decode cX8_told 94 = .ok (.getfield 12, 3) := by decide +kernel
theorem dX8_told_97 : decode cX8_told 97 = .ok (.aload_n 0, 1) := by decide +kernel
theorem dX8_told_98 : decode cX8_told 98 = .ok (.getfield 12, 3) := by decide +kernel
theorem dX8_told_101 : decode cX8_told 101 = .ok (.getfield 98, 3) := by decide +kernel
theorem dX8_told_104 : decode cX8_told 104 = .ok (.invokevirtual 168, 3) := by decide +kernel
theorem dX8_told_107 : decode cX8_told 107 = .ok (.ireturn, 1) := by decide +kernel
theorem dX8_told_108 : decode cX8_told 108 = .ok (.aload_n 0, 1) := by decide +kernel
theorem dX8_told_109 : decode cX8_told 109 = .ok (.getfield 12, 3) := by decide +kernel
theorem dX8_told_112 : decode cX8_told 112 = .ok (.getfield 98, 3) := by decide +kernel
theorem dX8_told_115 : decode cX8_told 115 = .ok (.invokevirtual 172, 3) := by decide +kernel
theorem dX8_told_118 : decode cX8_told 118 = .ok (.ireturn, 1) := by decide +kernel
theorem dX8_told_119 : decode cX8_told 119 = .ok (.aload_n 0, 1) := by decide +kernel
theorem dX8_told_120 : decode cX8_told 120 = .ok (.getfield 12, 3) := by decide +kernel
theorem dX8_told_123 : decode cX8_told 123 = .ok (.aload_n 0, 1) := by decide +kernel
theorem dX8_told_124 : decode cX8_told 124 = .ok (.getfield 12, 3) := by decide +kernel
theorem dX8_told_127 : decode cX8_told 127 = .ok (.getfield 176, 3) := by decide +kernel
theorem dX8_told_130 : decode cX8_told 130 = .ok (.invokevirtual 126, 3) := by decide +kernel
theorem dX8_told_133 : decode cX8_told 133 = .ok (.ireturn, 1) := by decide +kernel
theorem dX8_told_134 : decode cX8_told 134 = .ok (.iconst (-1), 1) := by decide +kernel
theorem dX8_told_135 : decode cX8_told 135 = .ok (.ireturn, 1) := by decide +kernel
theorem dX8_pass_0 : decode cX8_pass 0 = .ok (.iload_n 1, 1) := by decide +kernel
theorem dX8_pass_1 : decode cX8_pass 1 = .ok (.bipush 60, 2) := by decide +kernel
theorem dX8_pass_3 : decode cX8_pass 3 = .ok (.invokestatic 179, 3) := by decide +kernel
theorem dX8_pass_6 : decode cX8_pass 6 = .ok (.ifCond .ne 6, 3) := by decide +kernel
theorem dX8_pass_9 : decode cX8_pass 9 = .ok (.bipush (-2), 2) := by decide +kernel
theorem dX8_pass_11 : decode cX8_pass 11 = .ok (.ireturn, 1) := by decide +kernel
theorem dX8_pass_12 : decode cX8_pass 12 = .ok (.aload_n 0, 1) := by decide +kernel
theorem dX8_pass_13 : decode cX8_pass 13 = .ok (.getfield 12, 3) := by decide +kernel
theorem dX8_pass_16 : decode cX8_pass 16 = .ok (.getfield 98, 3) := by decide +kernel
theorem dX8_pass_19 : decode cX8_pass 19 = .ok (.getfield 119, 3) := by decide +kernel
theorem dX8_pass_22 : decode cX8_pass 22 = .ok (.iload_n 1, 1) := by decide +kernel
theorem dX8_pass_23 : decode cX8_pass 23 = .ok (.iadd, 1) := by decide +kernel
theorem dX8_pass_24 : decode cX8_pass 24 = .ok (.sipush 9999, 3) := by decide +kernel
theorem dX8_pass_27 : decode cX8_pass 27 = .ok (.if_icmp .le 6, 3) := by decide +kernel
theorem dX8_pass_30 : decode cX8_pass 30 = .ok (.bipush (-3), 2) := by decide +kernel
theorem dX8_pass_32 : decode cX8_pass 32 = .ok (.ireturn, 1) := by decide +kernel
theorem dX8_pass_33 : decode cX8_pass 33 = .ok (.aload_n 0, 1) := by decide +kernel
theorem dX8_pass_34 : decode cX8_pass 34 = .ok (.getfield 12, 3) := by decide +kernel
theorem dX8_pass_37 : decode cX8_pass 37 = .ok (.getfield 98, 3) := by decide +kernel
theorem dX8_pass_40 : decode cX8_pass 40 = .ok (.iload_n 1, 1) := by decide +kernel
theorem dX8_pass_41 : decode cX8_pass 41 = .ok (.aload_n 0, 1) := by decide +kernel
theorem dX8_pass_42 : decode cX8_pass 42 = .ok (.getfield 12, 3) := by decide +kernel
theorem dX8_pass_45 : decode cX8_pass 45 = .ok (.getfield 64, 3) := by decide +kernel
theorem dX8_pass_48 : decode cX8_pass 48 = .ok (.invokevirtual 182, 3) := by decide +kernel
theorem dX8_pass_51 : decode cX8_pass 51 = .ok (.aload_n 0, 1) := by decide +kernel
theorem dX8_pass_52 : decode cX8_pass 52 = .ok (.getfield 12, 3) := by decide +kernel
theorem dX8_pass_55 : decode cX8_pass 55 = .ok (.getfield 98, 3) := by decide +kernel
theorem dX8_pass_58 : decode cX8_pass 58 = .ok (.getfield 119, 3) := by decide +kernel
theorem dX8_pass_61 : decode cX8_pass 61 = .ok (.ireturn, 1) := by decide +kernel
theorem dX8_on_0 : decode cX8_on 0 = .ok (.iload_n 2, 1) := by decide +kernel
theorem dX8_on_1 : decode cX8_on 1 = .ok (.ifCond .eq 17, 3) := by decide +kernel
theorem dX8_on_4 : decode cX8_on 4 = .ok (.iload_n 2, 1) := by decide +kernel
theorem dX8_on_5 : decode cX8_on 5 = .ok (.bipush 10, 2) := by decide +kernel
theorem dX8_on_7 : decode cX8_on 7 = .ok (.if_icmp .lt 9, 3) := by decide +kernel
theorem dX8_on_10 : decode cX8_on 10 = .ok (.iload_n 2, 1) := by decide +kernel
theorem dX8_on_11 : decode cX8_on 11 = .ok (.bipush 26, 2) := by decide +kernel
theorem dX8_on_13 : decode cX8_on 13 = .ok (.if_icmp .lt 5, 3) := by decide +kernel
theorem dX8_on_16 : decode cX8_on 16 = .ok (.iconst (-1), 1) := by decide +kernel
theorem dX8_on_17 : decode cX8_on 17 = .ok (.ireturn, 1) := by decide +kernel
theorem dX8_on_18 : decode cX8_on 18 = .ok (.iload_n 1, 1) := by decide +kernel
theorem dX8_on_19 : decode cX8_on 19 = .ok (.bipush 60, 2) := by decide +kernel
theorem dX8_on_21 : decode cX8_on 21 = .ok (.invokestatic 179, 3) := by decide +kernel
theorem dX8_on_24 : decode cX8_on 24 = .ok (.ifCond .ne 6, 3) := by decide +kernel
theorem dX8_on_27 : decode cX8_on 27 = .ok (.bipush (-2), 2) := by decide +kernel
theorem dX8_on_29 : decode cX8_on 29 = .ok (.ireturn, 1) := by decide +kernel
theorem dX8_on_30 : decode cX8_on 30 = .ok (.aload_n 0, 1) := by decide +kernel
theorem dX8_on_31 : decode cX8_on 31 = .ok (.iload_n 1, 1) := by decide +kernel
theorem dX8_on_32 : decode cX8_on 32 = .ok (.invokevirtual 186, 3) := by decide +kernel
theorem dX8_on_35 : decode cX8_on 35 = .ok (.iload_n 2, 1) := by decide +kernel
theorem dX8_on_36 : decode cX8_on 36 = .ok (.ifCond .ne 17, 3) := by decide +kernel
theorem dX8_on_39 : decode cX8_on 39 = .ok (.aload_n 0, 1) := by decide +kernel
theorem dX8_on_40 : decode cX8_on 40 = .ok (.getfield 12, 3) := by decide +kernel
theorem dX8_on_43 : decode cX8_on 43 = .ok (.aload_n 0, 1) := by decide +kernel
theorem dX8_on_44 : decode cX8_on 44 = .ok (.getfield 44, 3) := by decide +kernel
theorem dX8_on_47 : decode cX8_on 47 = .ok (.invokevirtual 168, 3) := by decide +kernel
theorem dX8_on_50 : decode cX8_on 50 = .ok (.goto 15, 3) := by decide +kernel
theorem dX8_on_53 : decode cX8_on 53 = .ok (.aload_n 0, 1) := by decide +kernel
theorem dX8_on_54 : decode cX8_on 54 = .ok (.getfield 44, 3) := by decide +kernel
theorem dX8_on_57 : decode cX8_on 57 = .ok (.getfield 115, 3) := by decide +kernel
theorem dX8_on_60 : decode cX8_on 60 = .ok (.iload_n 2, 1) := by decide +kernel
theorem dX8_on_61 : decode cX8_on 61 = .ok (.bipush 10, 2) := by decide +kernel
theorem dX8_on_63 : decode cX8_on 63 = .ok (.isub, 1) := by decide +kernel
theorem dX8_on_64 : decode cX8_on 64 = .ok (.iaload, 1) := by decide +kernel
theorem dX8_on_65 : decode cX8_on 65 = .ok (.ireturn, 1) := by decide +kernel
theorem dX8_soon_0 : decode cX8_soon 0 = .ok (.aload_n 0, 1) := by decide +kernel
theorem dX8_soon_1 : decode cX8_soon 1 = .ok (.getfield 12, 3) := by decide +kernel
theorem dX8_soon_4 : decode cX8_soon 4 = .ok (.iload_n 1, 1) := by decide +kernel
theorem dX8_soon_5 : decode cX8_soon 5 = .ok (.invokevirtual 85, 3) := by decide +kernel
theorem dX8_soon_8 : decode cX8_soon 8 = .ok (.astore_n 2, 1) := by decide +kernel
theorem dX8_soon_9 : decode cX8_soon 9 = .ok (.aload_n 2, 1) := by decide +kernel
theorem dX8_soon_10 : decode cX8_soon 10 = .ok (.ifnonnull 5, 3) := by decide +kernel
theorem dX8_soon_13 : decode cX8_soon 13 = .ok (.iconst (-1), 1) := by decide +kernel
theorem dX8_soon_14 : decode cX8_soon 14 = .ok (.ireturn, 1) := by decide +kernel
theorem dX8_soon_15 : decode cX8_soon 15 = .ok (.aload_n 0, 1) := by decide +kernel
theorem dX8_soon_16 : decode cX8_soon 16 = .ok (.getfield 44, 3) := by decide +kernel
theorem dX8_soon_19 : decode cX8_soon 19 = .ok (.aload_n 0, 1) := by decide +kernel
theorem dX8_soon_20 : decode cX8_soon 20 = .ok (.getfield 12, 3) := by decide +kernel
theorem dX8_soon_23 : decode cX8_soon 23 = .ok (.getfield 98, 3) := by decide +kernel
theorem dX8_soon_26 : decode cX8_soon 26 = .ok (.invokevirtual 190, 3) := by decide +kernel
theorem dX8_soon_29 : decode cX8_soon 29 = .ok (.iconst 0, 1) := by decide +kernel
theorem dX8_soon_30 : decode cX8_soon 30 = .ok (.istore_n 3, 1) := by decide +kernel
theorem dX8_soon_31 : decode cX8_soon 31 = .ok (.iload_n 3, 1) := by decide +kernel
theorem dX8_soon_32 : decode cX8_soon 32 = .ok (.bipush 60, 2) := by decide +kernel
theorem dX8_soon_34 : decode cX8_soon 34 = .ok (.if_icmp .gt 47, 3) := by decide +kernel
theorem dX8_soon_37 : decode cX8_soon 37 = .ok (.aload_n 2, 1) := by decide +kernel
theorem dX8_soon_38 : decode cX8_soon 38 = .ok (.aload_n 0, 1) := by decide +kernel
theorem dX8_soon_39 : decode cX8_soon 39 = .ok (.getfield 44, 3) := by decide +kernel
theorem dX8_soon_42 : decode cX8_soon 42 = .ok (.aload_n 0, 1) := by decide +kernel
theorem dX8_soon_43 : decode cX8_soon 43 = .ok (.getfield 12, 3) := by decide +kernel
theorem dX8_soon_46 : decode cX8_soon 46 = .ok (.getfield 64, 3) := by decide +kernel
theorem dX8_soon_49 : decode cX8_soon 49 = .ok (.getfield 101, 3) := by decide +kernel
theorem dX8_soon_52 : decode cX8_soon 52 = .ok (.invokevirtual 104, 3) := by decide +kernel
theorem dX8_soon_55 : decode cX8_soon 55 = .ok (.ifCond .lt 5, 3) := by decide +kernel
theorem dX8_soon_58 : decode cX8_soon 58 = .ok (.iload_n 3, 1) := by decide +kernel
theorem dX8_soon_59 : decode cX8_soon 59 = .ok (.ireturn, 1) := by decide +kernel
theorem dX8_soon_60 : decode cX8_soon 60 = .ok (.aload_n 0, 1) := by decide +kernel
theorem dX8_soon_61 : decode cX8_soon 61 = .ok (.getfield 44, 3) := by decide +kernel
theorem dX8_soon_64 : decode cX8_soon 64 = .ok (.iconst 1, 1) := by decide +kernel
theorem dX8_soon_65 : decode cX8_soon 65 = .ok (.aload_n 0, 1) := by decide +kernel
theorem dX8_soon_66 : decode cX8_soon 66 = .ok (.getfield 12, 3) := by decide +kernel
theorem dX8_soon_69 : decode cX8_soon 69 = .ok (.getfield 64, 3) := by decide +kernel
theorem dX8_soon_72 : decode cX8_soon 72 = .ok (.invokevirtual 182, 3) := by decide +kernel
theorem dX8_soon_75 : decode cX8_soon 75 = .ok (.iinc 3 1, 3) := by decide +kernel
theorem dX8_soon_78 : decode cX8_soon 78 = .ok (.goto (-47), 3) := by decide +kernel
theorem dX8_soon_81 : decode cX8_soon 81 = .ok (.bipush (-5), 2) := by decide +kernel
theorem dX8_soon_83 : decode cX8_soon 83 = .ok (.ireturn, 1) := by decide +kernel
theorem dX8_way_0 : decode cX8_way 0 = .ok (.aload_n 0, 1) := by decide +kernel
theorem dX8_way_1 : decode cX8_way 1 = .ok (.getfield 12, 3) := by decide +kernel
theorem dX8_way_4 : decode cX8_way 4 = .ok (.iload_n 1, 1) := by decide +kernel
theorem dX8_way_5 : decode cX8_way 5 = .ok (.invokevirtual 85, 3) := by decide +kernel
theorem dX8_way_8 : decode cX8_way 8 = .ok (.astore_n 3, 1) := by decide +kernel
theorem dX8_way_9 : decode cX8_way 9 = .ok (.aload_n 3, 1) := by decide +kernel
theorem dX8_way_10 : decode cX8_way 10 = .ok (.ifnull 12, 3) := by decide +kernel
theorem dX8_way_13 : decode cX8_way 13 = .ok (.iload_n 2, 1) := by decide +kernel
theorem dX8_way_14 : decode cX8_way 14 = .ok (.bipush 16, 2) := by decide +kernel
theorem dX8_way_16 : decode cX8_way 16 = .ok (.invokestatic 69, 3) := by decide +kernel
theorem dX8_way_19 : decode cX8_way 19 = .ok (.ifCond .ne 5, 3) := by decide +kernel
theorem dX8_way_22 : decode cX8_way 22 = .ok (.iconst (-1), 1) := by decide +kernel
theorem dX8_way_23 : decode cX8_way 23 = .ok (.ireturn, 1) := by decide +kernel
theorem dX8_way_24 : decode cX8_way 24 = .ok (.aload_n 3, 1) := by decide +kernel
theorem dX8_way_25 : decode cX8_way 25 = .ok (.aload_n 0, 1) := by decide +kernel
theorem dX8_way_26 : decode cX8_way 26 = .ok (.getfield 12, 3) := by decide +kernel
theorem dX8_way_29 : decode cX8_way 29 = .ok (.getfield 98, 3) := by decide +kernel
theorem dX8_way_32 : decode cX8_way 32 = .ok (.aload_n 0, 1) := by decide +kernel
theorem dX8_way_33 : decode cX8_way 33 = .ok (.getfield 12, 3) := by decide +kernel
theorem dX8_way_36 : decode cX8_way 36 = .ok (.getfield 64, 3) := by decide +kernel
theorem dX8_way_39 : decode cX8_way 39 = .ok (.getfield 101, 3) := by decide +kernel
theorem dX8_way_42 : decode cX8_way 42 = .ok (.invokevirtual 193, 3) := by decide +kernel
theorem dX8_way_45 : decode cX8_way 45 = .ok (.istore 4, 2) := by decide +kernel
theorem dX8_way_47 : decode cX8_way 47 = .ok (.sipush 4369, 3) := by decide +kernel
theorem dX8_way_50 : decode cX8_way 50 = .ok (.ldc 196, 2) := by decide +kernel
theorem dX8_way_52 : decode cX8_way 52 = .ok (.iload 4, 2) := by decide +kernel
theorem dX8_way_54 : decode cX8_way 54 = .ok (.aload_n 3, 1) := by decide +kernel
theorem dX8_way_55 : decode cX8_way 55 = .ok (.invokevirtual 197, 3) := by decide +kernel
theorem dX8_way_58 : decode cX8_way 58 = .ok (.invokestatic 201, 3) := by decide +kernel
theorem dX8_way_61 : decode cX8_way 61 = .ok (.istore 5, 2) := by decide +kernel
theorem dX8_way_63 : decode cX8_way 63 = .ok (.iload_n 2, 1) := by decide +kernel
theorem dX8_way_64 : decode cX8_way 64 = .ok (.iload 5, 2) := by decide +kernel
theorem dX8_way_66 : decode cX8_way 66 = .ok (.if_icmp .le 6, 3) := by decide +kernel
theorem dX8_way_69 : decode cX8_way 69 = .ok (.bipush (-5), 2) := by decide +kernel
theorem dX8_way_71 : decode cX8_way 71 = .ok (.ireturn, 1) := by decide +kernel
theorem dX8_way_72 : decode cX8_way 72 = .ok (.sipush 4369, 3) := by decide +kernel
theorem dX8_way_75 : decode cX8_way 75 = .ok (.iload 5, 2) := by decide +kernel
theorem dX8_way_77 : decode cX8_way 77 = .ok (.iload 4, 2) := by decide +kernel
theorem dX8_way_79 : decode cX8_way 79 = .ok (.aload_n 3, 1) := by decide +kernel
theorem dX8_way_80 : decode cX8_way 80 = .ok (.invokevirtual 197, 3) := by decide +kernel
theorem dX8_way_83 : decode cX8_way 83 = .ok (.invokestatic 205, 3) := by decide +kernel
theorem dX8_way_86 : decode cX8_way 86 = .ok (.istore 6, 2) := by decide +kernel
theorem dX8_way_88 : decode cX8_way 88 = .ok (.iconst 0, 1) := by decide +kernel
theorem dX8_way_89 : decode cX8_way 89 = .ok (.istore 7, 2) := by decide +kernel
theorem dX8_way_91 : decode cX8_way 91 = .ok (.iload 7, 2) := by decide +kernel
theorem dX8_way_93 : decode cX8_way 93 = .ok (.iload_n 2, 1) := by decide +kernel
theorem dX8_way_94 : decode cX8_way 94 = .ok (.if_icmp .ge 43, 3) := by decide +kernel
theorem dX8_way_97 : decode cX8_way 97 = .ok (.iload 6, 2) := by decide +kernel
theorem dX8_way_99 : decode cX8_way 99 = .ok (.ifCond .lt 38, 3) := by decide +kernel
theorem dX8_way_102 : decode cX8_way 102 = .ok (.iconst 1, 1) := by decide +kernel
theorem dX8_way_103 : decode cX8_way 103 = .ok (.iload 6, 2) := by decide +kernel
theorem dX8_way_105 : decode cX8_way 105 = .ok (.ishl, 1) := by decide +kernel
theorem dX8_way_106 : decode cX8_way 106 = .ok (.aload_n 3, 1) := by decide +kernel
theorem dX8_way_107 : decode cX8_way 107 = .ok (.invokevirtual 197, 3) := by decide +kernel
theorem dX8_way_110 : decode cX8_way 110 = .ok (.invokestatic 138, 3) := by decide +kernel
theorem dX8_way_113 : decode cX8_way 113 = .ok (.iload 5, 2) := by decide +kernel
theorem dX8_way_115 : decode cX8_way 115 = .ok (.iload 7, 2) := by decide +kernel
theorem dX8_way_117 : decode cX8_way 117 = .ok (.isub, 1) := by decide +kernel
theorem dX8_way_118 : decode cX8_way 118 = .ok (.iconst 1, 1) := by decide +kernel
theorem dX8_way_119 : decode cX8_way 119 = .ok (.isub, 1) := by decide +kernel
theorem dX8_way_120 : decode cX8_way 120 = .ok (.iload 4, 2) := by decide +kernel
theorem dX8_way_122 : decode cX8_way 122 = .ok (.aload_n 3, 1) := by decide +kernel
theorem dX8_way_123 : decode cX8_way 123 = .ok (.invokevirtual 197, 3) := by decide +kernel
theorem dX8_way_126 : decode cX8_way 126 = .ok (.invokestatic 205, 3) := by decide +kernel
theorem dX8_way_129 : decode cX8_way 129 = .ok (.istore 6, 2) := by decide +kernel
theorem dX8_way_131 : decode cX8_way 131 = .ok (.iinc 7 1, 3) := by decide +kernel
theorem dX8_way_134 : decode cX8_way 134 = .ok (.goto (-43), 3) := by decide +kernel
theorem dX8_way_137 : decode cX8_way 137 = .ok (.iload 6, 2) := by decide +kernel
theorem dX8_way_139 : decode cX8_way 139 = .ok (.ireturn, 1) := by decide +kernel
theorem dX8_reach_0 : decode cX8_reach 0 = .ok (.aload_n 0, 1) := by decide +kernel
theorem dX8_reach_1 : decode cX8_reach 1 = .ok (.getfield 12, 3) := by decide +kernel
theorem dX8_reach_4 : decode cX8_reach 4 = .ok (.iload_n 1, 1) := by decide +kernel
theorem dX8_reach_5 : decode cX8_reach 5 = .ok (.invokevirtual 85, 3) := by decide +kernel
theorem dX8_reach_8 : decode cX8_reach 8 = .ok (.astore 4, 2) := by decide +kernel
theorem dX8_reach_10 : decode cX8_reach 10 = .ok (.aload 4, 2) := by decide +kernel
theorem dX8_reach_12 : decode cX8_reach 12 = .ok (.ifnull 21, 3) := by decide +kernel
theorem dX8_reach_15 : decode cX8_reach 15 = .ok (.iload_n 2, 1) := by decide +kernel
theorem dX8_reach_16 : decode cX8_reach 16 = .ok (.bipush 16, 2) := by decide +kernel
theorem dX8_reach_18 : decode cX8_reach 18 = .ok (.invokestatic 69, 3) := by decide +kernel
theorem dX8_reach_21 : decode cX8_reach 21 = .ok (.ifCond .eq 12, 3) := by decide +kernel
theorem dX8_reach_24 : decode cX8_reach 24 = .ok (.iload_n 3, 1) := by decide +kernel
theorem dX8_reach_25 : decode cX8_reach 25 = .ok (.bipush 16, 2) := by decide +kernel
theorem dX8_reach_27 : decode cX8_reach 27 = .ok (.invokestatic 69, 3) := by decide +kernel
theorem dX8_reach_30 : decode cX8_reach 30 = .ok (.ifCond .ne 5, 3) := by decide +kernel
theorem dX8_reach_33 : decode cX8_reach 33 = .ok (.iconst (-1), 1) := by decide +kernel
theorem dX8_reach_34 : decode cX8_reach 34 = .ok (.ireturn, 1) := by decide +kernel
theorem dX8_reach_35 : decode cX8_reach 35 = .ok (.iconst 1, 1) := by decide +kernel
theorem dX8_reach_36 : decode cX8_reach 36 = .ok (.iload_n 2, 1) := by decide +kernel
theorem dX8_reach_37 : decode cX8_reach 37 = .ok (.ishl, 1) := by decide +kernel
theorem dX8_reach_38 : decode cX8_reach 38 = .ok (.iconst 1, 1) := by decide +kernel
theorem dX8_reach_39 : decode cX8_reach 39 = .ok (.iload_n 3, 1) := by decide +kernel
theorem dX8_reach_40 : decode cX8_reach 40 = .ok (.ishl, 1) := by decide +kernel
theorem dX8_reach_41 : decode cX8_reach 41 = .ok (.aload 4, 2) := by decide +kernel
theorem dX8_reach_43 : decode cX8_reach 43 = .ok (.aload_n 0, 1) := by decide +kernel
theorem dX8_reach_44 : decode cX8_reach 44 = .ok (.getfield 12, 3) := by decide +kernel
theorem dX8_reach_47 : decode cX8_reach 47 = .ok (.getfield 98, 3) := by decide +kernel
theorem dX8_reach_50 : decode cX8_reach 50 = .ok (.aload_n 0, 1) := by decide +kernel
theorem dX8_reach_51 : decode cX8_reach 51 = .ok (.getfield 12, 3) := by decide +kernel
theorem dX8_reach_54 : decode cX8_reach 54 = .ok (.getfield 64, 3) := by decide +kernel
theorem dX8_reach_57 : decode cX8_reach 57 = .ok (.getfield 101, 3) := by decide +kernel
theorem dX8_reach_60 : decode cX8_reach 60 = .ok (.invokevirtual 193, 3) := by decide +kernel
theorem dX8_reach_63 : decode cX8_reach 63 = .ok (.aload 4, 2) := by decide +kernel
theorem dX8_reach_65 : decode cX8_reach 65 = .ok (.invokevirtual 197, 3) := by decide +kernel
theorem dX8_reach_68 : decode cX8_reach 68 = .ok (.invokestatic 201, 3) := by decide +kernel
theorem dX8_reach_71 : decode cX8_reach 71 = .ok (.ireturn, 1) := by decide +kernel
theorem dX8_heaviest_0 : decode cX8_heaviest 0 = .ok (.aload_n 0, 1) := by decide +kernel
theorem dX8_heaviest_1 : decode cX8_heaviest 1 = .ok (.getfield 12, 3) := by decide +kernel
theorem dX8_heaviest_4 : decode cX8_heaviest 4 = .ok (.iload_n 1, 1) := by decide +kernel
theorem dX8_heaviest_5 : decode cX8_heaviest 5 = .ok (.invokevirtual 85, 3) := by decide +kernel
theorem dX8_heaviest_8 : decode cX8_heaviest 8 = .ok (.astore_n 2, 1) := by decide +kernel
theorem dX8_heaviest_9 : decode cX8_heaviest 9 = .ok (.aload_n 2, 1) := by decide +kernel
theorem dX8_heaviest_10 : decode cX8_heaviest 10 = .ok (.ifnonnull 5, 3) := by decide +kernel
theorem dX8_heaviest_13 : decode cX8_heaviest 13 = .ok (.iconst (-1), 1) := by decide +kernel
theorem dX8_heaviest_14 : decode cX8_heaviest 14 = .ok (.ireturn, 1) := by decide +kernel
theorem dX8_heaviest_15 : decode cX8_heaviest 15 = .ok (.aload_n 0, 1) := by decide +kernel
theorem dX8_heaviest_16 : decode cX8_heaviest 16 = .ok (.getfield 51, 3) := by decide +kernel
theorem dX8_heaviest_19 : decode cX8_heaviest 19 = .ok (.aload_n 2, 1) := by decide +kernel
theorem dX8_heaviest_20 : decode cX8_heaviest 20 = .ok (.invokevirtual 208, 3) := by decide +kernel
theorem dX8_heaviest_23 : decode cX8_heaviest 23 = .ok (.bipush 99, 2) := by decide +kernel
theorem dX8_heaviest_25 : decode cX8_heaviest 25 = .ok (.istore_n 3, 1) := by decide +kernel
theorem dX8_heaviest_26 : decode cX8_heaviest 26 = .ok (.iload_n 3, 1) := by decide +kernel
theorem dX8_heaviest_27 : decode cX8_heaviest 27 = .ok (.ifCond .lt 46, 3) := by decide +kernel
theorem dX8_heaviest_30 : decode cX8_heaviest 30 = .ok (.aload_n 0, 1) := by decide +kernel
theorem dX8_heaviest_31 : decode cX8_heaviest 31 = .ok (.getfield 51, 3) := by decide +kernel
theorem dX8_heaviest_34 : decode cX8_heaviest 34 = .ok (.iload_n 3, 1) := by decide +kernel
theorem dX8_heaviest_35 : decode cX8_heaviest 35 = .ok (.putfield 95, 3) := by decide +kernel
theorem dX8_heaviest_38 : decode cX8_heaviest 38 = .ok (.aload_n 0, 1) := by decide +kernel
theorem dX8_heaviest_39 : decode cX8_heaviest 39 = .ok (.getfield 51, 3) := by decide +kernel
theorem dX8_heaviest_42 : decode cX8_heaviest 42 = .ok (.aload_n 0, 1) := by decide +kernel
theorem dX8_heaviest_43 : decode cX8_heaviest 43 = .ok (.getfield 12, 3) := by decide +kernel
theorem dX8_heaviest_46 : decode cX8_heaviest 46 = .ok (.getfield 98, 3) := by decide +kernel
theorem dX8_heaviest_49 : decode cX8_heaviest 49 = .ok (.aload_n 0, 1) := by decide +kernel
theorem dX8_heaviest_50 : decode cX8_heaviest 50 = .ok (.getfield 12, 3) := by decide +kernel
theorem dX8_heaviest_53 : decode cX8_heaviest 53 = .ok (.getfield 64, 3) := by decide +kernel
theorem dX8_heaviest_56 : decode cX8_heaviest 56 = .ok (.getfield 101, 3) := by decide +kernel
theorem dX8_heaviest_59 : decode cX8_heaviest 59 = .ok (.invokevirtual 104, 3) := by decide +kernel
theorem dX8_heaviest_62 : decode cX8_heaviest 62 = .ok (.ifCond .lt 5, 3) := by decide +kernel
theorem dX8_heaviest_65 : decode cX8_heaviest 65 = .ok (.iload_n 3, 1) := by decide +kernel
theorem dX8_heaviest_66 : decode cX8_heaviest 66 = .ok (.ireturn, 1) := by decide +kernel
theorem dX8_heaviest_67 : decode cX8_heaviest 67 = .ok (.iinc 3 (-1), 3) := by decide +kernel
theorem dX8_heaviest_70 : decode cX8_heaviest 70 = .ok (.goto (-44), 3) := by decide +kernel
theorem dX8_heaviest_73 : decode cX8_heaviest 73 = .ok (.bipush (-5), 2) := by decide +kernel
theorem dX8_heaviest_75 : decode cX8_heaviest 75 = .ok (.ireturn, 1) := by decide +kernel
theorem dX8_cut_0 : decode cX8_cut 0 = .ok (.aload_n 0, 1) := by decide +kernel
theorem dX8_cut_1 : decode cX8_cut 1 = .ok (.getfield 12, 3) := by decide +kernel
theorem dX8_cut_4 : decode cX8_cut 4 = .ok (.iload_n 1, 1) := by decide +kernel
theorem dX8_cut_5 : decode cX8_cut 5 = .ok (.invokevirtual 85, 3) := by decide +kernel
theorem dX8_cut_8 : decode cX8_cut 8 = .ok (.astore_n 3, 1) := by decide +kernel
theorem dX8_cut_9 : decode cX8_cut 9 = .ok (.aload_n 3, 1) := by decide +kernel
theorem dX8_cut_10 : decode cX8_cut 10 = .ok (.ifnull 11, 3) := by decide +kernel
theorem dX8_cut_13 : decode cX8_cut 13 = .ok (.iload_n 2, 1) := by decide +kernel
theorem dX8_cut_14 : decode cX8_cut 14 = .ok (.iconst 2, 1) := by decide +kernel
theorem dX8_cut_15 : decode cX8_cut 15 = .ok (.invokestatic 69, 3) := by decide +kernel
theorem dX8_cut_18 : decode cX8_cut 18 = .ok (.ifCond .ne 5, 3) := by decide +kernel
theorem dX8_cut_21 : decode cX8_cut 21 = .ok (.iconst (-1), 1) := by decide +kernel
theorem dX8_cut_22 : decode cX8_cut 22 = .ok (.ireturn, 1) := by decide +kernel
theorem dX8_cut_23 : decode cX8_cut 23 = .ok (.aload_n 3, 1) := by decide +kernel
theorem dX8_cut_24 : decode cX8_cut 24 = .ok (.aload_n 0, 1) := by decide +kernel
theorem dX8_cut_25 : decode cX8_cut 25 = .ok (.getfield 12, 3) := by decide +kernel
theorem dX8_cut_28 : decode cX8_cut 28 = .ok (.getfield 98, 3) := by decide +kernel
theorem dX8_cut_31 : decode cX8_cut 31 = .ok (.aload_n 0, 1) := by decide +kernel
theorem dX8_cut_32 : decode cX8_cut 32 = .ok (.getfield 12, 3) := by decide +kernel
theorem dX8_cut_35 : decode cX8_cut 35 = .ok (.getfield 64, 3) := by decide +kernel
theorem dX8_cut_38 : decode cX8_cut 38 = .ok (.getfield 101, 3) := by decide +kernel
theorem dX8_cut_41 : decode cX8_cut 41 = .ok (.invokevirtual 193, 3) := by decide +kernel
theorem dX8_cut_44 : decode cX8_cut 44 = .ok (.aload_n 3, 1) := by decide +kernel
theorem dX8_cut_45 : decode cX8_cut 45 = .ok (.invokevirtual 197, 3) := by decide +kernel
theorem dX8_cut_48 : decode cX8_cut 48 = .ok (.invokestatic 212, 3) := by decide +kernel
theorem dX8_cut_51 : decode cX8_cut 51 = .ok (.istore 4, 2) := by decide +kernel
theorem dX8_cut_53 : decode cX8_cut 53 = .ok (.iload 4, 2) := by decide +kernel
theorem dX8_cut_55 : decode cX8_cut 55 = .ok (.ifCond .lt 8, 3) := by decide +kernel
theorem dX8_cut_58 : decode cX8_cut 58 = .ok (.iload_n 2, 1) := by decide +kernel
theorem dX8_cut_59 : decode cX8_cut 59 = .ok (.iconst 1, 1) := by decide +kernel
theorem dX8_cut_60 : decode cX8_cut 60 = .ok (.if_icmp .ne 6, 3) := by decide +kernel
theorem dX8_cut_63 : decode cX8_cut 63 = .ok (.iload 4, 2) := by decide +kernel
theorem dX8_cut_65 : decode cX8_cut 65 = .ok (.ireturn, 1) := by decide +kernel
theorem dX8_cut_66 : decode cX8_cut 66 = .ok (.iload 4, 2) := by decide +kernel
theorem dX8_cut_68 : decode cX8_cut 68 = .ok (.invokestatic 215, 3) := by decide +kernel
theorem dX8_cut_71 : decode cX8_cut 71 = .ok (.ireturn, 1) := by decide +kernel
theorem dX8_stirred_0 : decode cX8_stirred 0 = .ok (.aload_n 0, 1) := by decide +kernel
theorem dX8_stirred_1 : decode cX8_stirred 1 = .ok (.getfield 12, 3) := by decide +kernel
theorem dX8_stirred_4 : decode cX8_stirred 4 = .ok (.iload_n 1, 1) := by decide +kernel
theorem dX8_stirred_5 : decode cX8_stirred 5 = .ok (.invokevirtual 85, 3) := by decide +kernel
theorem dX8_stirred_8 : decode cX8_stirred 8 = .ok (.astore_n 2, 1) := by decide +kernel
theorem dX8_stirred_9 : decode cX8_stirred 9 = .ok (.aload_n 2, 1) := by decide +kernel
theorem dX8_stirred_10 : decode cX8_stirred 10 = .ok (.ifnonnull 5, 3) := by decide +kernel
theorem dX8_stirred_13 : decode cX8_stirred 13 = .ok (.iconst (-1), 1) := by decide +kernel
theorem dX8_stirred_14 : decode cX8_stirred 14 = .ok (.ireturn, 1) := by decide +kernel
theorem dX8_stirred_15 : decode cX8_stirred 15 = .ok (.aload_n 0, 1) := by decide +kernel
theorem dX8_stirred_16 : decode cX8_stirred 16 = .ok (.getfield 44, 3) := by decide +kernel
theorem dX8_stirred_19 : decode cX8_stirred 19 = .ok (.aload_n 0, 1) := by decide +kernel
theorem dX8_stirred_20 : decode cX8_stirred 20 = .ok (.getfield 12, 3) := by decide +kernel
theorem dX8_stirred_23 : decode cX8_stirred 23 = .ok (.getfield 98, 3) := by decide +kernel
theorem dX8_stirred_26 : decode cX8_stirred 26 = .ok (.invokevirtual 190, 3) := by decide +kernel
theorem dX8_stirred_29 : decode cX8_stirred 29 = .ok (.aload_n 2, 1) := by decide +kernel
theorem dX8_stirred_30 : decode cX8_stirred 30 = .ok (.aload_n 0, 1) := by decide +kernel
theorem dX8_stirred_31 : decode cX8_stirred 31 = .ok (.getfield 44, 3) := by decide +kernel
theorem dX8_stirred_34 : decode cX8_stirred 34 = .ok (.aload_n 0, 1) := by decide +kernel
theorem dX8_stirred_35 : decode cX8_stirred 35 = .ok (.getfield 12, 3) := by decide +kernel
theorem dX8_stirred_38 : decode cX8_stirred 38 = .ok (.getfield 64, 3) := by decide +kernel
theorem dX8_stirred_41 : decode cX8_stirred 41 = .ok (.getfield 101, 3) := by decide +kernel
theorem dX8_stirred_44 : decode cX8_stirred 44 = .ok (.invokevirtual 104, 3) := by decide +kernel
theorem dX8_stirred_47 : decode cX8_stirred 47 = .ok (.istore_n 3, 1) := by decide +kernel
theorem dX8_stirred_48 : decode cX8_stirred 48 = .ok (.bipush (-5), 2) := by decide +kernel
theorem dX8_stirred_50 : decode cX8_stirred 50 = .ok (.istore 4, 2) := by decide +kernel
theorem dX8_stirred_52 : decode cX8_stirred 52 = .ok (.iconst 0, 1) := by decide +kernel
theorem dX8_stirred_53 : decode cX8_stirred 53 = .ok (.istore 5, 2) := by decide +kernel
theorem dX8_stirred_55 : decode cX8_stirred 55 = .ok (.iload 5, 2) := by decide +kernel
theorem dX8_stirred_57 : decode cX8_stirred 57 = .ok (.bipush 16, 2) := by decide +kernel
theorem dX8_stirred_59 : decode cX8_stirred 59 = .ok (.if_icmp .ge 118, 3) := by decide +kernel
theorem dX8_stirred_62 : decode cX8_stirred 62 = .ok (.iconst 1, 1) := by decide +kernel
theorem dX8_stirred_63 : decode cX8_stirred 63 = .ok (.iload 5, 2) := by decide +kernel
theorem dX8_stirred_65 : decode cX8_stirred 65 = .ok (.ishl, 1) := by decide +kernel
theorem dX8_stirred_66 : decode cX8_stirred 66 = .ok (.iconst 0, 1) := by decide +kernel
theorem dX8_stirred_67 : decode cX8_stirred 67 = .ok (.invokestatic 138, 3) := by decide +kernel
theorem dX8_stirred_70 : decode cX8_stirred 70 = .ok (.istore 6, 2) := by decide +kernel
theorem dX8_stirred_72 : decode cX8_stirred 72 = .ok (.iload 5, 2) := by decide +kernel
theorem dX8_stirred_74 : decode cX8_stirred 74 = .ok (.iconst 1, 1) := by decide +kernel
theorem dX8_stirred_75 : decode cX8_stirred 75 = .ok (.iadd, 1) := by decide +kernel
theorem dX8_stirred_76 : decode cX8_stirred 76 = .ok (.istore 7, 2) := by decide +kernel
theorem dX8_stirred_78 : decode cX8_stirred 78 = .ok (.iload 7, 2) := by decide +kernel
theorem dX8_stirred_80 : decode cX8_stirred 80 = .ok (.bipush 16, 2) := by decide +kernel
theorem dX8_stirred_82 : decode cX8_stirred 82 = .ok (.if_icmp .ge 89, 3) := by decide +kernel
theorem dX8_stirred_85 : decode cX8_stirred 85 = .ok (.iload 6, 2) := by decide +kernel
theorem dX8_stirred_87 : decode cX8_stirred 87 = .ok (.iconst 1, 1) := by decide +kernel
theorem dX8_stirred_88 : decode cX8_stirred 88 = .ok (.iload 7, 2) := by decide +kernel
theorem dX8_stirred_90 : decode cX8_stirred 90 = .ok (.ishl, 1) := by decide +kernel
theorem dX8_stirred_91 : decode cX8_stirred 91 = .ok (.iand, 1) := by decide +kernel
theorem dX8_stirred_92 : decode cX8_stirred 92 = .ok (.ifCond .eq 73, 3) := by decide +kernel
theorem dX8_stirred_95 : decode cX8_stirred 95 = .ok (.aload_n 0, 1) := by decide +kernel
theorem dX8_stirred_96 : decode cX8_stirred 96 = .ok (.getfield 44, 3) := by decide +kernel
theorem dX8_stirred_99 : decode cX8_stirred 99 = .ok (.iload 5, 2) := by decide +kernel
theorem dX8_stirred_101 : decode cX8_stirred 101 = .ok (.iload 7, 2) := by decide +kernel
theorem dX8_stirred_103 : decode cX8_stirred 103 = .ok (.invokevirtual 142, 3) := by decide +kernel
theorem dX8_stirred_106 : decode cX8_stirred 106 = .ok (.aload_n 2, 1) := by decide +kernel
theorem dX8_stirred_107 : decode cX8_stirred 107 = .ok (.aload_n 0, 1) := by decide +kernel
theorem dX8_stirred_108 : decode cX8_stirred 108 = .ok (.getfield 44, 3) := by decide +kernel
theorem dX8_stirred_111 : decode cX8_stirred 111 = .ok (.aload_n 0, 1) := by decide +kernel
theorem dX8_stirred_112 : decode cX8_stirred 112 = .ok (.getfield 12, 3) := by decide +kernel
theorem dX8_stirred_115 : decode cX8_stirred 115 = .ok (.getfield 64, 3) := by decide +kernel
theorem dX8_stirred_118 : decode cX8_stirred 118 = .ok (.getfield 101, 3) := by decide +kernel
theorem dX8_stirred_121 : decode cX8_stirred 121 = .ok (.invokevirtual 104, 3) := by decide +kernel
theorem dX8_stirred_124 : decode cX8_stirred 124 = .ok (.istore 8, 2) := by decide +kernel
theorem dX8_stirred_126 : decode cX8_stirred 126 = .ok (.aload_n 0, 1) := by decide +kernel
theorem dX8_stirred_127 : decode cX8_stirred 127 = .ok (.getfield 44, 3) := by decide +kernel
theorem dX8_stirred_130 : decode cX8_stirred 130 = .ok (.iload 5, 2) := by decide +kernel
theorem dX8_stirred_132 : decode cX8_stirred 132 = .ok (.iload 7, 2) := by decide +kernel
theorem dX8_stirred_134 : decode cX8_stirred 134 = .ok (.invokevirtual 142, 3) := by decide +kernel
theorem dX8_stirred_137 : decode cX8_stirred 137 = .ok (.iload 8, 2) := by decide +kernel
theorem dX8_stirred_139 : decode cX8_stirred 139 = .ok (.ifCond .lt 26, 3) := by decide +kernel
theorem dX8_stirred_142 : decode cX8_stirred 142 = .ok (.iload_n 3, 1) := by decide +kernel
theorem dX8_stirred_143 : decode cX8_stirred 143 = .ok (.ifCond .lt 9, 3) := by decide +kernel
theorem dX8_stirred_146 : decode cX8_stirred 146 = .ok (.iload 8, 2) := by decide +kernel
theorem dX8_stirred_148 : decode cX8_stirred 148 = .ok (.iload_n 3, 1) := by decide +kernel
theorem dX8_stirred_149 : decode cX8_stirred 149 = .ok (.if_icmp .ge 16, 3) := by decide +kernel
theorem dX8_stirred_152 : decode cX8_stirred 152 = .ok (.iload 8, 2) := by decide +kernel
theorem dX8_stirred_154 : decode cX8_stirred 154 = .ok (.istore_n 3, 1) := by decide +kernel
theorem dX8_stirred_155 : decode cX8_stirred 155 = .ok (.bipush 100, 2) := by decide +kernel
theorem dX8_stirred_157 : decode cX8_stirred 157 = .ok (.iload 5, 2) := by decide +kernel
theorem dX8_stirred_159 : decode cX8_stirred 159 = .ok (.imul, 1) := by decide +kernel
theorem dX8_stirred_160 : decode cX8_stirred 160 = .ok (.iload 7, 2) := by decide +kernel
theorem dX8_stirred_162 : decode cX8_stirred 162 = .ok (.iadd, 1) := by decide +kernel
theorem dX8_stirred_163 : decode cX8_stirred 163 = .ok (.istore 4, 2) := by decide +kernel
theorem dX8_stirred_165 : decode cX8_stirred 165 = .ok (.iinc 7 1, 3) := by decide +kernel
theorem dX8_stirred_168 : decode cX8_stirred 168 = .ok (.goto (-90), 3) := by decide +kernel
theorem dX8_stirred_171 : decode cX8_stirred 171 = .ok (.iinc 5 1, 3) := by decide +kernel
theorem dX8_stirred_174 : decode cX8_stirred 174 = .ok (.goto (-119), 3) := by decide +kernel
theorem dX8_stirred_177 : decode cX8_stirred 177 = .ok (.iload 4, 2) := by decide +kernel
theorem dX8_stirred_179 : decode cX8_stirred 179 = .ok (.ireturn, 1) := by decide +kernel
theorem dX8_meet_0 : decode cX8_meet 0 = .ok (.aload_n 0, 1) := by decide +kernel
theorem dX8_meet_1 : decode cX8_meet 1 = .ok (.getfield 12, 3) := by decide +kernel
theorem dX8_meet_4 : decode cX8_meet 4 = .ok (.iload_n 1, 1) := by decide +kernel
theorem dX8_meet_5 : decode cX8_meet 5 = .ok (.invokevirtual 85, 3) := by decide +kernel
theorem dX8_meet_8 : decode cX8_meet 8 = .ok (.astore_n 3, 1) := by decide +kernel
theorem dX8_meet_9 : decode cX8_meet 9 = .ok (.aload_n 0, 1) := by decide +kernel
theorem dX8_meet_10 : decode cX8_meet 10 = .ok (.getfield 12, 3) := by decide +kernel
theorem dX8_meet_13 : decode cX8_meet 13 = .ok (.iload_n 2, 1) := by decide +kernel
theorem dX8_meet_14 : decode cX8_meet 14 = .ok (.invokevirtual 85, 3) := by decide +kernel
theorem dX8_meet_17 : decode cX8_meet 17 = .ok (.astore 4, 2) := by decide +kernel
theorem dX8_meet_19 : decode cX8_meet 19 = .ok (.aload_n 3, 1) := by decide +kernel
theorem dX8_meet_20 : decode cX8_meet 20 = .ok (.ifnull 8, 3) := by decide +kernel
theorem dX8_meet_23 : decode cX8_meet 23 = .ok (.aload 4, 2) := by decide +kernel
theorem dX8_meet_25 : decode cX8_meet 25 = .ok (.ifnonnull 5, 3) := by decide +kernel
theorem dX8_meet_28 : decode cX8_meet 28 = .ok (.iconst (-1), 1) := by decide +kernel
theorem dX8_meet_29 : decode cX8_meet 29 = .ok (.ireturn, 1) := by decide +kernel
theorem dX8_meet_30 : decode cX8_meet 30 = .ok (.iload_n 1, 1) := by decide +kernel
theorem dX8_meet_31 : decode cX8_meet 31 = .ok (.iload_n 2, 1) := by decide +kernel
theorem dX8_meet_32 : decode cX8_meet 32 = .ok (.if_icmp .ne 6, 3) := by decide +kernel
theorem dX8_meet_35 : decode cX8_meet 35 = .ok (.bipush (-2), 2) := by decide +kernel
theorem dX8_meet_37 : decode cX8_meet 37 = .ok (.ireturn, 1) := by decide +kernel
theorem dX8_meet_38 : decode cX8_meet 38 = .ok (.aload_n 3, 1) := by decide +kernel
theorem dX8_meet_39 : decode cX8_meet 39 = .ok (.aload_n 0, 1) := by decide +kernel
theorem dX8_meet_40 : decode cX8_meet 40 = .ok (.getfield 12, 3) := by decide +kernel
theorem dX8_meet_43 : decode cX8_meet 43 = .ok (.getfield 98, 3) := by decide +kernel
theorem dX8_meet_46 : decode cX8_meet 46 = .ok (.aload_n 0, 1) := by decide +kernel
theorem dX8_meet_47 : decode cX8_meet 47 = .ok (.getfield 12, 3) := by decide +kernel
theorem dX8_meet_50 : decode cX8_meet 50 = .ok (.getfield 64, 3) := by decide +kernel
theorem dX8_meet_53 : decode cX8_meet 53 = .ok (.getfield 101, 3) := by decide +kernel
theorem dX8_meet_56 : decode cX8_meet 56 = .ok (.invokevirtual 193, 3) := by decide +kernel
theorem dX8_meet_59 : decode cX8_meet 59 = .ok (.istore 5, 2) := by decide +kernel
theorem dX8_meet_61 : decode cX8_meet 61 = .ok (.aload 4, 2) := by decide +kernel
theorem dX8_meet_63 : decode cX8_meet 63 = .ok (.aload_n 0, 1) := by decide +kernel
theorem dX8_meet_64 : decode cX8_meet 64 = .ok (.getfield 12, 3) := by decide +kernel
theorem dX8_meet_67 : decode cX8_meet 67 = .ok (.getfield 98, 3) := by decide +kernel
theorem dX8_meet_70 : decode cX8_meet 70 = .ok (.aload_n 0, 1) := by decide +kernel
theorem dX8_meet_71 : decode cX8_meet 71 = .ok (.getfield 12, 3) := by decide +kernel
theorem dX8_meet_74 : decode cX8_meet 74 = .ok (.getfield 64, 3) := by decide +kernel
theorem dX8_meet_77 : decode cX8_meet 77 = .ok (.getfield 101, 3) := by decide +kernel
theorem dX8_meet_80 : decode cX8_meet 80 = .ok (.invokevirtual 193, 3) := by decide +kernel
theorem dX8_meet_83 : decode cX8_meet 83 = .ok (.istore 6, 2) := by decide +kernel
theorem dX8_meet_85 : decode cX8_meet 85 = .ok (.iconst 0, 1) := by decide +kernel
theorem dX8_meet_86 : decode cX8_meet 86 = .ok (.istore 7, 2) := by decide +kernel
theorem dX8_meet_88 : decode cX8_meet 88 = .ok (.bipush (-5), 2) := by decide +kernel
theorem dX8_meet_90 : decode cX8_meet 90 = .ok (.istore 8, 2) := by decide +kernel
theorem dX8_meet_92 : decode cX8_meet 92 = .ok (.iconst 0, 1) := by decide +kernel
theorem dX8_meet_93 : decode cX8_meet 93 = .ok (.istore 9, 2) := by decide +kernel
theorem dX8_meet_95 : decode cX8_meet 95 = .ok (.iload 9, 2) := by decide +kernel
theorem dX8_meet_97 : decode cX8_meet 97 = .ok (.bipush 16, 2) := by decide +kernel
theorem dX8_meet_99 : decode cX8_meet 99 = .ok (.if_icmp .ge 82, 3) := by decide +kernel
theorem dX8_meet_102 : decode cX8_meet 102 = .ok (.sipush 4369, 3) := by decide +kernel
theorem dX8_meet_105 : decode cX8_meet 105 = .ok (.iconst 1, 1) := by decide +kernel
theorem dX8_meet_106 : decode cX8_meet 106 = .ok (.iload 9, 2) := by decide +kernel
theorem dX8_meet_108 : decode cX8_meet 108 = .ok (.ishl, 1) := by decide +kernel
theorem dX8_meet_109 : decode cX8_meet 109 = .ok (.iload 5, 2) := by decide +kernel
theorem dX8_meet_111 : decode cX8_meet 111 = .ok (.aload_n 3, 1) := by decide +kernel
theorem dX8_meet_112 : decode cX8_meet 112 = .ok (.invokevirtual 197, 3) := by decide +kernel
theorem dX8_meet_115 : decode cX8_meet 115 = .ok (.invokestatic 201, 3) := by decide +kernel
theorem dX8_meet_118 : decode cX8_meet 118 = .ok (.istore 10, 2) := by decide +kernel
theorem dX8_meet_120 : decode cX8_meet 120 = .ok (.sipush 4369, 3) := by decide +kernel
theorem dX8_meet_123 : decode cX8_meet 123 = .ok (.iconst 1, 1) := by decide +kernel
theorem dX8_meet_124 : decode cX8_meet 124 = .ok (.iload 9, 2) := by decide +kernel
theorem dX8_meet_126 : decode cX8_meet 126 = .ok (.ishl, 1) := by decide +kernel
theorem dX8_meet_127 : decode cX8_meet 127 = .ok (.iload 6, 2) := by decide +kernel
theorem dX8_meet_129 : decode cX8_meet 129 = .ok (.aload 4, 2) := by decide +kernel
theorem dX8_meet_131 : decode cX8_meet 131 = .ok (.invokevirtual 197, 3) := by decide +kernel
theorem dX8_meet_134 : decode cX8_meet 134 = .ok (.invokestatic 201, 3) := by decide +kernel
theorem dX8_meet_137 : decode cX8_meet 137 = .ok (.istore 11, 2) := by decide +kernel
theorem dX8_meet_139 : decode cX8_meet 139 = .ok (.iload 10, 2) := by decide +kernel
theorem dX8_meet_141 : decode cX8_meet 141 = .ok (.ifCond .lt 34, 3) := by decide +kernel
theorem dX8_meet_144 : decode cX8_meet 144 = .ok (.iload 11, 2) := by decide +kernel
theorem dX8_meet_146 : decode cX8_meet 146 = .ok (.ifCond .lt 29, 3) := by decide +kernel
theorem dX8_meet_149 : decode cX8_meet 149 = .ok (.iload 8, 2) := by decide +kernel
theorem dX8_meet_151 : decode cX8_meet 151 = .ok (.ifCond .lt 13, 3) := by decide +kernel
theorem dX8_meet_154 : decode cX8_meet 154 = .ok (.iload 10, 2) := by decide +kernel
theorem dX8_meet_156 : decode cX8_meet 156 = .ok (.iload 11, 2) := by decide +kernel
theorem dX8_meet_158 : decode cX8_meet 158 = .ok (.iadd, 1) := by decide +kernel
theorem dX8_meet_159 : decode cX8_meet 159 = .ok (.iload 7, 2) := by decide +kernel
theorem dX8_meet_161 : decode cX8_meet 161 = .ok (.if_icmp .ge 14, 3) := by decide +kernel
theorem dX8_meet_164 : decode cX8_meet 164 = .ok (.iload 10, 2) := by decide +kernel
theorem dX8_meet_166 : decode cX8_meet 166 = .ok (.iload 11, 2) := by decide +kernel
theorem dX8_meet_168 : decode cX8_meet 168 = .ok (.iadd, 1) := by decide +kernel
theorem dX8_meet_169 : decode cX8_meet 169 = .ok (.istore 7, 2) := by decide +kernel
theorem dX8_meet_171 : decode cX8_meet 171 = .ok (.iload 9, 2) := by decide +kernel
theorem dX8_meet_173 : decode cX8_meet 173 = .ok (.istore 8, 2) := by decide +kernel
theorem dX8_meet_175 : decode cX8_meet 175 = .ok (.iinc 9 1, 3) := by decide +kernel
theorem dX8_meet_178 : decode cX8_meet 178 = .ok (.goto (-83), 3) := by decide +kernel
theorem dX8_meet_181 : decode cX8_meet 181 = .ok (.iload 8, 2) := by decide +kernel
theorem dX8_meet_183 : decode cX8_meet 183 = .ok (.ireturn, 1) := by decide +kernel
theorem dX8_print_0 : decode cX8_print 0 = .ok (.iload_n 1, 1) := by decide +kernel
theorem dX8_print_1 : decode cX8_print 1 = .ok (.ldc 220, 2) := by decide +kernel
theorem dX8_print_3 : decode cX8_print 3 = .ok (.invokestatic 179, 3) := by decide +kernel
theorem dX8_print_6 : decode cX8_print 6 = .ok (.ifCond .ne 6, 3) := by decide +kernel
theorem dX8_print_9 : decode cX8_print 9 = .ok (.bipush (-2), 2) := by decide +kernel
theorem dX8_print_11 : decode cX8_print 11 = .ok (.ireturn, 1) := by decide +kernel
theorem dX8_print_12 : decode cX8_print 12 = .ok (.aload_n 0, 1) := by decide +kernel
theorem dX8_print_13 : decode cX8_print 13 = .ok (.getfield 12, 3) := by decide +kernel
theorem dX8_print_16 : decode cX8_print 16 = .ok (.getfield 176, 3) := by decide +kernel
theorem dX8_print_19 : decode cX8_print 19 = .ok (.istore_n 2, 1) := by decide +kernel
theorem dX8_print_20 : decode cX8_print 20 = .ok (.aload_n 0, 1) := by decide +kernel
theorem dX8_print_21 : decode cX8_print 21 = .ok (.getfield 12, 3) := by decide +kernel
theorem dX8_print_24 : decode cX8_print 24 = .ok (.iload_n 1, 1) := by decide +kernel
theorem dX8_print_25 : decode cX8_print 25 = .ok (.putfield 176, 3) := by decide +kernel
theorem dX8_print_28 : decode cX8_print 28 = .ok (.iload_n 2, 1) := by decide +kernel
theorem dX8_print_29 : decode cX8_print 29 = .ok (.ireturn, 1) := by decide +kernel
theorem dX8_see_0 : decode cX8_see 0 = .ok (.iload_n 1, 1) := by decide +kernel
theorem dX8_see_1 : decode cX8_see 1 = .ok (.iconst (-1), 1) := by decide +kernel
theorem dX8_see_2 : decode cX8_see 2 = .ok (.if_icmp .ne 14, 3) := by decide +kernel
theorem dX8_see_5 : decode cX8_see 5 = .ok (.aload_n 0, 1) := by decide +kernel
theorem dX8_see_6 : decode cX8_see 6 = .ok (.getfield 12, 3) := by decide +kernel
theorem dX8_see_9 : decode cX8_see 9 = .ok (.getfield 221, 3) := by decide +kernel
theorem dX8_see_12 : decode cX8_see 12 = .ok (.invokevirtual 225, 3) := by decide +kernel
theorem dX8_see_15 : decode cX8_see 15 = .ok (.ireturn, 1) := by decide +kernel
theorem dX8_see_16 : decode cX8_see 16 = .ok (.aload_n 0, 1) := by decide +kernel
theorem dX8_see_17 : decode cX8_see 17 = .ok (.getfield 12, 3) := by decide +kernel
theorem dX8_see_20 : decode cX8_see 20 = .ok (.iload_n 1, 1) := by decide +kernel
theorem dX8_see_21 : decode cX8_see 21 = .ok (.invokevirtual 85, 3) := by decide +kernel
theorem dX8_see_24 : decode cX8_see 24 = .ok (.ifnonnull 5, 3) := by decide +kernel
theorem dX8_see_27 : decode cX8_see 27 = .ok (.iconst (-1), 1) := by decide +kernel
theorem dX8_see_28 : decode cX8_see 28 = .ok (.ireturn, 1) := by decide +kernel
theorem dX8_see_29 : decode cX8_see 29 = .ok (.iload_n 3, 1) := by decide +kernel
theorem dX8_see_30 : decode cX8_see 30 = .ok (.bipush 20, 2) := by decide +kernel
theorem dX8_see_32 : decode cX8_see 32 = .ok (.invokestatic 179, 3) := by decide +kernel
theorem dX8_see_35 : decode cX8_see 35 = .ok (.ifCond .ne 6, 3) := by decide +kernel
theorem dX8_see_38 : decode cX8_see 38 = .ok (.bipush (-2), 2) := by decide +kernel
theorem dX8_see_40 : decode cX8_see 40 = .ok (.ireturn, 1) := by decide +kernel
theorem dX8_see_41 : decode cX8_see 41 = .ok (.aload_n 0, 1) := by decide +kernel
theorem dX8_see_42 : decode cX8_see 42 = .ok (.getfield 12, 3) := by decide +kernel
theorem dX8_see_45 : decode cX8_see 45 = .ok (.getfield 221, 3) := by decide +kernel
theorem dX8_see_48 : decode cX8_see 48 = .ok (.iload_n 1, 1) := by decide +kernel
theorem dX8_see_49 : decode cX8_see 49 = .ok (.iload_n 3, 1) := by decide +kernel
theorem dX8_see_50 : decode cX8_see 50 = .ok (.iload_n 2, 1) := by decide +kernel
theorem dX8_see_51 : decode cX8_see 51 = .ok (.ifCond .eq 7, 3) := by decide +kernel
theorem dX8_see_54 : decode cX8_see 54 = .ok (.iconst 1, 1) := by decide +kernel
theorem dX8_see_55 : decode cX8_see 55 = .ok (.goto 4, 3) := by decide +kernel
theorem dX8_see_58 : decode cX8_see 58 = .ok (.iconst 0, 1) := by decide +kernel
theorem dX8_see_59 : decode cX8_see 59 = .ok (.invokevirtual 230, 3) := by decide +kernel
theorem dX8_see_62 : decode cX8_see 62 = .ok (.ireturn, 1) := by decide +kernel
theorem dX8_heft_0 : decode cX8_heft 0 = .ok (.aload_n 0, 1) := by decide +kernel
theorem dX8_heft_1 : decode cX8_heft 1 = .ok (.getfield 12, 3) := by decide +kernel
theorem dX8_heft_4 : decode cX8_heft 4 = .ok (.iload_n 1, 1) := by decide +kernel
theorem dX8_heft_5 : decode cX8_heft 5 = .ok (.invokevirtual 85, 3) := by decide +kernel
theorem dX8_heft_8 : decode cX8_heft 8 = .ok (.astore_n 3, 1) := by decide +kernel
theorem dX8_heft_9 : decode cX8_heft 9 = .ok (.aload_n 3, 1) := by decide +kernel
theorem dX8_heft_10 : decode cX8_heft 10 = .ok (.ifnull 11, 3) := by decide +kernel
theorem dX8_heft_13 : decode cX8_heft 13 = .ok (.iload_n 2, 1) := by decide +kernel
theorem dX8_heft_14 : decode cX8_heft 14 = .ok (.iconst 2, 1) := by decide +kernel
theorem dX8_heft_15 : decode cX8_heft 15 = .ok (.invokestatic 69, 3) := by decide +kernel
theorem dX8_heft_18 : decode cX8_heft 18 = .ok (.ifCond .ne 5, 3) := by decide +kernel
theorem dX8_heft_21 : decode cX8_heft 21 = .ok (.iconst (-1), 1) := by decide +kernel
theorem dX8_heft_22 : decode cX8_heft 22 = .ok (.ireturn, 1) := by decide +kernel
theorem dX8_heft_23 : decode cX8_heft 23 = .ok (.aload_n 0, 1) := by decide +kernel
theorem dX8_heft_24 : decode cX8_heft 24 = .ok (.bipush 100, 2) := by decide +kernel
theorem dX8_heft_26 : decode cX8_heft 26 = .ok (.invokevirtual 232, 3) := by decide +kernel
theorem dX8_heft_29 : decode cX8_heft 29 = .ok (.iconst 0, 1) := by decide +kernel
theorem dX8_heft_30 : decode cX8_heft 30 = .ok (.istore 4, 2) := by decide +kernel
theorem dX8_heft_32 : decode cX8_heft 32 = .ok (.iload 4, 2) := by decide +kernel
theorem dX8_heft_34 : decode cX8_heft 34 = .ok (.aload_n 0, 1) := by decide +kernel
theorem dX8_heft_35 : decode cX8_heft 35 = .ok (.getfield 12, 3) := by decide +kernel
theorem dX8_heft_38 : decode cX8_heft 38 = .ok (.getfield 221, 3) := by decide +kernel
theorem dX8_heft_41 : decode cX8_heft 41 = .ok (.getfield 235, 3) := by decide +kernel
theorem dX8_heft_44 : decode cX8_heft 44 = .ok (.if_icmp .ge 91, 3) := by decide +kernel
theorem dX8_heft_47 : decode cX8_heft 47 = .ok (.aload_n 0, 1) := by decide +kernel
theorem dX8_heft_48 : decode cX8_heft 48 = .ok (.aload_n 0, 1) := by decide +kernel
theorem dX8_heft_49 : decode cX8_heft 49 = .ok (.getfield 12, 3) := by decide +kernel
theorem dX8_heft_52 : decode cX8_heft 52 = .ok (.getfield 221, 3) := by decide +kernel
theorem dX8_heft_55 : decode cX8_heft 55 = .ok (.getfield 238, 3) := by decide +kernel
theorem dX8_heft_58 : decode cX8_heft 58 = .ok (.iload 4, 2) := by decide +kernel
theorem dX8_heft_60 : decode cX8_heft 60 = .ok (.iaload, 1) := by decide +kernel
theorem dX8_heft_61 : decode cX8_heft 61 = .ok (.invokevirtual 186, 3) := by decide +kernel
theorem dX8_heft_64 : decode cX8_heft 64 = .ok (.aload_n 0, 1) := by decide +kernel
theorem dX8_heft_65 : decode cX8_heft 65 = .ok (.getfield 51, 3) := by decide +kernel
theorem dX8_heft_68 : decode cX8_heft 68 = .ok (.aload_n 3, 1) := by decide +kernel
theorem dX8_heft_69 : decode cX8_heft 69 = .ok (.invokevirtual 208, 3) := by decide +kernel
theorem dX8_heft_72 : decode cX8_heft 72 = .ok (.iconst 0, 1) := by decide +kernel
theorem dX8_heft_73 : decode cX8_heft 73 = .ok (.istore 5, 2) := by decide +kernel
theorem dX8_heft_75 : decode cX8_heft 75 = .ok (.iload 5, 2) := by decide +kernel
theorem dX8_heft_77 : decode cX8_heft 77 = .ok (.bipush 100, 2) := by decide +kernel
theorem dX8_heft_79 : decode cX8_heft 79 = .ok (.if_icmp .ge 50, 3) := by decide +kernel
theorem dX8_heft_82 : decode cX8_heft 82 = .ok (.aload_n 0, 1) := by decide +kernel
theorem dX8_heft_83 : decode cX8_heft 83 = .ok (.getfield 51, 3) := by decide +kernel
theorem dX8_heft_86 : decode cX8_heft 86 = .ok (.iload 5, 2) := by decide +kernel
theorem dX8_heft_88 : decode cX8_heft 88 = .ok (.putfield 95, 3) := by decide +kernel
theorem dX8_heft_91 : decode cX8_heft 91 = .ok (.aload_n 0, 1) := by decide +kernel
theorem dX8_heft_92 : decode cX8_heft 92 = .ok (.getfield 55, 3) := by decide +kernel
theorem dX8_heft_95 : decode cX8_heft 95 = .ok (.iload 5, 2) := by decide +kernel
theorem dX8_heft_97 : decode cX8_heft 97 = .ok (.aload_n 0, 1) := by decide +kernel
theorem dX8_heft_98 : decode cX8_heft 98 = .ok (.getfield 55, 3) := by decide +kernel
theorem dX8_heft_101 : decode cX8_heft 101 = .ok (.iload 5, 2) := by decide +kernel
theorem dX8_heft_103 : decode cX8_heft 103 = .ok (.baload, 1) := by decide +kernel
theorem dX8_heft_104 : decode cX8_heft 104 = .ok (.ifCond .eq 17, 3) := by decide +kernel
theorem dX8_heft_107 : decode cX8_heft 107 = .ok (.aload_n 0, 1) := by decide +kernel
theorem dX8_heft_108 : decode cX8_heft 108 = .ok (.iload 4, 2) := by decide +kernel
theorem dX8_heft_110 : decode cX8_heft 110 = .ok (.iload_n 1, 1) := by decide +kernel
theorem dX8_heft_111 : decode cX8_heft 111 = .ok (.invokevirtual 241, 3) := by decide +kernel
theorem dX8_heft_114 : decode cX8_heft 114 = .ok (.ifCond .eq 7, 3) := by decide +kernel
theorem dX8_heft_117 : decode cX8_heft 117 = .ok (.iconst 1, 1) := by decide +kernel
theorem dX8_heft_118 : decode cX8_heft 118 = .ok (.goto 4, 3) := by decide +kernel
theorem dX8_heft_121 : decode cX8_heft 121 = .ok (.iconst 0, 1) := by decide +kernel
theorem dX8_heft_122 : decode cX8_heft 122 = .ok (.bastore, 1) := by decide +kernel
theorem dX8_heft_123 : decode cX8_heft 123 = .ok (.iinc 5 1, 3) := by decide +kernel
theorem dX8_heft_126 : decode cX8_heft 126 = .ok (.goto (-51), 3) := by decide +kernel
theorem dX8_heft_129 : decode cX8_heft 129 = .ok (.iinc 4 1, 3) := by decide +kernel
theorem dX8_heft_132 : decode cX8_heft 132 = .ok (.goto (-100), 3) := by decide +kernel
theorem dX8_heft_135 : decode cX8_heft 135 = .ok (.aload_n 0, 1) := by decide +kernel
theorem dX8_heft_136 : decode cX8_heft 136 = .ok (.bipush 100, 2) := by decide +kernel
theorem dX8_heft_138 : decode cX8_heft 138 = .ok (.iload_n 2, 1) := by decide +kernel
theorem dX8_heft_139 : decode cX8_heft 139 = .ok (.invokevirtual 244, 3) := by decide +kernel
theorem dX8_heft_142 : decode cX8_heft 142 = .ok (.ireturn, 1) := by decide +kernel
theorem dX8_can_0 : decode cX8_can 0 = .ok (.aload_n 0, 1) := by decide +kernel
theorem dX8_can_1 : decode cX8_can 1 = .ok (.getfield 12, 3) := by decide +kernel
theorem dX8_can_4 : decode cX8_can 4 = .ok (.iload_n 1, 1) := by decide +kernel
theorem dX8_can_5 : decode cX8_can 5 = .ok (.invokevirtual 85, 3) := by decide +kernel
theorem dX8_can_8 : decode cX8_can 8 = .ok (.astore_n 3, 1) := by decide +kernel
theorem dX8_can_9 : decode cX8_can 9 = .ok (.aload_n 3, 1) := by decide +kernel
theorem dX8_can_10 : decode cX8_can 10 = .ok (.ifnull 11, 3) := by decide +kernel
theorem dX8_can_13 : decode cX8_can 13 = .ok (.iload_n 2, 1) := by decide +kernel
theorem dX8_can_14 : decode cX8_can 14 = .ok (.iconst 2, 1) := by decide +kernel
theorem dX8_can_15 : decode cX8_can 15 = .ok (.invokestatic 69, 3) := by decide +kernel
theorem dX8_can_18 : decode cX8_can 18 = .ok (.ifCond .ne 5, 3) := by decide +kernel
theorem dX8_can_21 : decode cX8_can 21 = .ok (.iconst (-1), 1) := by decide +kernel
theorem dX8_can_22 : decode cX8_can 22 = .ok (.ireturn, 1) := by decide +kernel
theorem dX8_can_23 : decode cX8_can 23 = .ok (.aload_n 0, 1) := by decide +kernel
theorem dX8_can_24 : decode cX8_can 24 = .ok (.bipush 10, 2) := by decide +kernel
theorem dX8_can_26 : decode cX8_can 26 = .ok (.invokevirtual 232, 3) := by decide +kernel
theorem dX8_can_29 : decode cX8_can 29 = .ok (.iconst 0, 1) := by decide +kernel
theorem dX8_can_30 : decode cX8_can 30 = .ok (.istore 4, 2) := by decide +kernel
theorem dX8_can_32 : decode cX8_can 32 = .ok (.iload 4, 2) := by decide +kernel
theorem dX8_can_34 : decode cX8_can 34 = .ok (.aload_n 0, 1) := by decide +kernel
theorem dX8_can_35 : decode cX8_can 35 = .ok (.getfield 12, 3) := by decide +kernel
theorem dX8_can_38 : decode cX8_can 38 = .ok (.getfield 221, 3) := by decide +kernel
theorem dX8_can_41 : decode cX8_can 41 = .ok (.getfield 235, 3) := by decide +kernel
theorem dX8_can_44 : decode cX8_can 44 = .ok (.if_icmp .ge 91, 3) := by decide +kernel
theorem dX8_can_47 : decode cX8_can 47 = .ok (.aload_n 0, 1) := by decide +kernel
theorem dX8_can_48 : decode cX8_can 48 = .ok (.aload_n 0, 1) := by decide +kernel
theorem dX8_can_49 : decode cX8_can 49 = .ok (.getfield 12, 3) := by decide +kernel
theorem dX8_can_52 : decode cX8_can 52 = .ok (.getfield 221, 3) := by decide +kernel
theorem dX8_can_55 : decode cX8_can 55 = .ok (.getfield 238, 3) := by decide +kernel
theorem dX8_can_58 : decode cX8_can 58 = .ok (.iload 4, 2) := by decide +kernel
theorem dX8_can_60 : decode cX8_can 60 = .ok (.iaload, 1) := by decide +kernel
theorem dX8_can_61 : decode cX8_can 61 = .ok (.invokevirtual 186, 3) := by decide +kernel
theorem dX8_can_64 : decode cX8_can 64 = .ok (.aload_n 0, 1) := by decide +kernel
theorem dX8_can_65 : decode cX8_can 65 = .ok (.getfield 51, 3) := by decide +kernel
theorem dX8_can_68 : decode cX8_can 68 = .ok (.aload_n 3, 1) := by decide +kernel
theorem dX8_can_69 : decode cX8_can 69 = .ok (.invokevirtual 208, 3) := by decide +kernel
theorem dX8_can_72 : decode cX8_can 72 = .ok (.iconst 0, 1) := by decide +kernel
theorem dX8_can_73 : decode cX8_can 73 = .ok (.istore 5, 2) := by decide +kernel
theorem dX8_can_75 : decode cX8_can 75 = .ok (.iload 5, 2) := by decide +kernel
theorem dX8_can_77 : decode cX8_can 77 = .ok (.bipush 10, 2) := by decide +kernel
theorem dX8_can_79 : decode cX8_can 79 = .ok (.if_icmp .ge 50, 3) := by decide +kernel
theorem dX8_can_82 : decode cX8_can 82 = .ok (.aload_n 0, 1) := by decide +kernel
theorem dX8_can_83 : decode cX8_can 83 = .ok (.getfield 51, 3) := by decide +kernel
theorem dX8_can_86 : decode cX8_can 86 = .ok (.iload 5, 2) := by decide +kernel
theorem dX8_can_88 : decode cX8_can 88 = .ok (.putfield 92, 3) := by decide +kernel
theorem dX8_can_91 : decode cX8_can 91 = .ok (.aload_n 0, 1) := by decide +kernel
theorem dX8_can_92 : decode cX8_can 92 = .ok (.getfield 55, 3) := by decide +kernel
theorem dX8_can_95 : decode cX8_can 95 = .ok (.iload 5, 2) := by decide +kernel
theorem dX8_can_97 : decode cX8_can 97 = .ok (.aload_n 0, 1) := by decide +kernel
theorem dX8_can_98 : decode cX8_can 98 = .ok (.getfield 55, 3) := by decide +kernel
theorem dX8_can_101 : decode cX8_can 101 = .ok (.iload 5, 2) := by decide +kernel
theorem dX8_can_103 : decode cX8_can 103 = .ok (.baload, 1) := by decide +kernel
theorem dX8_can_104 : decode cX8_can 104 = .ok (.ifCond .eq 17, 3) := by decide +kernel
theorem dX8_can_107 : decode cX8_can 107 = .ok (.aload_n 0, 1) := by decide +kernel
theorem dX8_can_108 : decode cX8_can 108 = .ok (.iload 4, 2) := by decide +kernel
theorem dX8_can_110 : decode cX8_can 110 = .ok (.iload_n 1, 1) := by decide +kernel
theorem dX8_can_111 : decode cX8_can 111 = .ok (.invokevirtual 241, 3) := by decide +kernel
theorem dX8_can_114 : decode cX8_can 114 = .ok (.ifCond .eq 7, 3) := by decide +kernel
theorem dX8_can_117 : decode cX8_can 117 = .ok (.iconst 1, 1) := by decide +kernel
theorem dX8_can_118 : decode cX8_can 118 = .ok (.goto 4, 3) := by decide +kernel
theorem dX8_can_121 : decode cX8_can 121 = .ok (.iconst 0, 1) := by decide +kernel
theorem dX8_can_122 : decode cX8_can 122 = .ok (.bastore, 1) := by decide +kernel
theorem dX8_can_123 : decode cX8_can 123 = .ok (.iinc 5 1, 3) := by decide +kernel
theorem dX8_can_126 : decode cX8_can 126 = .ok (.goto (-51), 3) := by decide +kernel
theorem dX8_can_129 : decode cX8_can 129 = .ok (.iinc 4 1, 3) := by decide +kernel
theorem dX8_can_132 : decode cX8_can 132 = .ok (.goto (-100), 3) := by decide +kernel
theorem dX8_can_135 : decode cX8_can 135 = .ok (.aload_n 0, 1) := by decide +kernel
theorem dX8_can_136 : decode cX8_can 136 = .ok (.bipush 10, 2) := by decide +kernel
theorem dX8_can_138 : decode cX8_can 138 = .ok (.iload_n 2, 1) := by decide +kernel
theorem dX8_can_139 : decode cX8_can 139 = .ok (.invokevirtual 244, 3) := by decide +kernel
theorem dX8_can_142 : decode cX8_can 142 = .ok (.ireturn, 1) := by decide +kernel
theorem dX8_was_0 : decode cX8_was 0 = .ok (.iload_n 1, 1) := by decide +kernel
theorem dX8_was_1 : decode cX8_was 1 = .ok (.bipush 16, 2) := by decide +kernel
theorem dX8_was_3 : decode cX8_was 3 = .ok (.invokestatic 69, 3) := by decide +kernel
theorem dX8_was_6 : decode cX8_was 6 = .ok (.ifCond .eq 12, 3) := by decide +kernel
theorem dX8_was_9 : decode cX8_was 9 = .ok (.iload 4, 2) := by decide +kernel
theorem dX8_was_11 : decode cX8_was 11 = .ok (.iconst 2, 1) := by decide +kernel
theorem dX8_was_12 : decode cX8_was 12 = .ok (.invokestatic 69, 3) := by decide +kernel
theorem dX8_was_15 : decode cX8_was 15 = .ok (.ifCond .ne 5, 3) := by decide +kernel
theorem dX8_was_18 : decode cX8_was 18 = .ok (.iconst (-1), 1) := by decide +kernel
theorem dX8_was_19 : decode cX8_was 19 = .ok (.ireturn, 1) := by decide +kernel
theorem dX8_was_20 : decode cX8_was 20 = .ok (.iload_n 2, 1) := by decide +kernel
theorem dX8_was_21 : decode cX8_was 21 = .ok (.bipush 100, 2) := by decide +kernel
theorem dX8_was_23 : decode cX8_was 23 = .ok (.invokestatic 69, 3) := by decide +kernel
theorem dX8_was_26 : decode cX8_was 26 = .ok (.ifCond .eq 12, 3) := by decide +kernel
theorem dX8_was_29 : decode cX8_was 29 = .ok (.iload_n 3, 1) := by decide +kernel
theorem dX8_was_30 : decode cX8_was 30 = .ok (.bipush 20, 2) := by decide +kernel
theorem dX8_was_32 : decode cX8_was 32 = .ok (.invokestatic 179, 3) := by decide +kernel
theorem dX8_was_35 : decode cX8_was 35 = .ok (.ifCond .ne 6, 3) := by decide +kernel
theorem dX8_was_38 : decode cX8_was 38 = .ok (.bipush (-2), 2) := by decide +kernel
theorem dX8_was_40 : decode cX8_was 40 = .ok (.ireturn, 1) := by decide +kernel
theorem dX8_was_41 : decode cX8_was 41 = .ok (.iconst 0, 1) := by decide +kernel
theorem dX8_was_42 : decode cX8_was 42 = .ok (.istore 5, 2) := by decide +kernel
theorem dX8_was_44 : decode cX8_was 44 = .ok (.iload 5, 2) := by decide +kernel
theorem dX8_was_46 : decode cX8_was 46 = .ok (.bipush 100, 2) := by decide +kernel
theorem dX8_was_48 : decode cX8_was 48 = .ok (.if_icmp .ge 74, 3) := by decide +kernel
theorem dX8_was_51 : decode cX8_was 51 = .ok (.iload 5, 2) := by decide +kernel
theorem dX8_was_53 : decode cX8_was 53 = .ok (.istore 6, 2) := by decide +kernel
theorem dX8_was_55 : decode cX8_was 55 = .ok (.iconst 0, 1) := by decide +kernel
theorem dX8_was_56 : decode cX8_was 56 = .ok (.istore 7, 2) := by decide +kernel
theorem dX8_was_58 : decode cX8_was 58 = .ok (.iload 7, 2) := by decide +kernel
theorem dX8_was_60 : decode cX8_was 60 = .ok (.iload_n 3, 1) := by decide +kernel
theorem dX8_was_61 : decode cX8_was 61 = .ok (.if_icmp .ge 37, 3) := by decide +kernel
theorem dX8_was_64 : decode cX8_was 64 = .ok (.aload_n 0, 1) := by decide +kernel
theorem dX8_was_65 : decode cX8_was 65 = .ok (.getfield 12, 3) := by decide +kernel
theorem dX8_was_68 : decode cX8_was 68 = .ok (.getfield 64, 3) := by decide +kernel
theorem dX8_was_71 : decode cX8_was 71 = .ok (.iload_n 1, 1) := by decide +kernel
theorem dX8_was_72 : decode cX8_was 72 = .ok (.iload 6, 2) := by decide +kernel
theorem dX8_was_74 : decode cX8_was 74 = .ok (.aload_n 0, 1) := by decide +kernel
theorem dX8_was_75 : decode cX8_was 75 = .ok (.getfield 12, 3) := by decide +kernel
theorem dX8_was_78 : decode cX8_was 78 = .ok (.getfield 98, 3) := by decide +kernel
theorem dX8_was_81 : decode cX8_was 81 = .ok (.getfield 119, 3) := by decide +kernel
theorem dX8_was_84 : decode cX8_was 84 = .ok (.iload 7, 2) := by decide +kernel
theorem dX8_was_86 : decode cX8_was 86 = .ok (.iadd, 1) := by decide +kernel
theorem dX8_was_87 : decode cX8_was 87 = .ok (.invokevirtual 247, 3) := by decide +kernel
theorem dX8_was_90 : decode cX8_was 90 = .ok (.istore 6, 2) := by decide +kernel
theorem dX8_was_92 : decode cX8_was 92 = .ok (.iinc 7 1, 3) := by decide +kernel
theorem dX8_was_95 : decode cX8_was 95 = .ok (.goto (-37), 3) := by decide +kernel
theorem dX8_was_98 : decode cX8_was 98 = .ok (.aload_n 0, 1) := by decide +kernel
theorem dX8_was_99 : decode cX8_was 99 = .ok (.getfield 55, 3) := by decide +kernel
theorem dX8_was_102 : decode cX8_was 102 = .ok (.iload 5, 2) := by decide +kernel
theorem dX8_was_104 : decode cX8_was 104 = .ok (.iload 6, 2) := by decide +kernel
theorem dX8_was_106 : decode cX8_was 106 = .ok (.iload_n 2, 1) := by decide +kernel
theorem dX8_was_107 : decode cX8_was 107 = .ok (.if_icmp .ne 7, 3) := by decide +kernel
theorem dX8_was_110 : decode cX8_was 110 = .ok (.iconst 1, 1) := by decide +kernel
theorem dX8_was_111 : decode cX8_was 111 = .ok (.goto 4, 3) := by decide +kernel
theorem dX8_was_114 : decode cX8_was 114 = .ok (.iconst 0, 1) := by decide +kernel
theorem dX8_was_115 : decode cX8_was 115 = .ok (.bastore, 1) := by decide +kernel
theorem dX8_was_116 : decode cX8_was 116 = .ok (.iinc 5 1, 3) := by decide +kernel
theorem dX8_was_119 : decode cX8_was 119 = .ok (.goto (-75), 3) := by decide +kernel
theorem dX8_was_122 : decode cX8_was 122 = .ok (.aload_n 0, 1) := by decide +kernel
theorem dX8_was_123 : decode cX8_was 123 = .ok (.bipush 100, 2) := by decide +kernel
theorem dX8_was_125 : decode cX8_was 125 = .ok (.iload 4, 2) := by decide +kernel
theorem dX8_was_127 : decode cX8_was 127 = .ok (.invokevirtual 244, 3) := by decide +kernel
theorem dX8_was_130 : decode cX8_was 130 = .ok (.ireturn, 1) := by decide +kernel
theorem dX8_odds_0 : decode cX8_odds 0 = .ok (.aload_n 0, 1) := by decide +kernel
theorem dX8_odds_1 : decode cX8_odds 1 = .ok (.getfield 12, 3) := by decide +kernel
theorem dX8_odds_4 : decode cX8_odds 4 = .ok (.iload_n 1, 1) := by decide +kernel
theorem dX8_odds_5 : decode cX8_odds 5 = .ok (.invokevirtual 85, 3) := by decide +kernel
theorem dX8_odds_8 : decode cX8_odds 8 = .ok (.astore_n 3, 1) := by decide +kernel
theorem dX8_odds_9 : decode cX8_odds 9 = .ok (.aload_n 3, 1) := by decide +kernel
theorem dX8_odds_10 : decode cX8_odds 10 = .ok (.ifnull 11, 3) := by decide +kernel
theorem dX8_odds_13 : decode cX8_odds 13 = .ok (.iload_n 2, 1) := by decide +kernel
theorem dX8_odds_14 : decode cX8_odds 14 = .ok (.iconst 2, 1) := by decide +kernel
theorem dX8_odds_15 : decode cX8_odds 15 = .ok (.invokestatic 69, 3) := by decide +kernel
theorem dX8_odds_18 : decode cX8_odds 18 = .ok (.ifCond .ne 7, 3) := by decide +kernel
theorem dX8_odds_21 : decode cX8_odds 21 = .ok (.ldc2_w 250, 3) := by decide +kernel
theorem dX8_odds_24 : decode cX8_odds 24 = .ok (.lreturn, 1) := by decide +kernel
theorem dX8_odds_25 : decode cX8_odds 25 = .ok (.iconst 0, 1) := by decide +kernel
theorem dX8_odds_26 : decode cX8_odds 26 = .ok (.istore 4, 2) := by decide +kernel
theorem dX8_odds_28 : decode cX8_odds 28 = .ok (.iconst 0, 1) := by decide +kernel
theorem dX8_odds_29 : decode cX8_odds 29 = .ok (.istore 5, 2) := by decide +kernel
theorem dX8_odds_31 : decode cX8_odds 31 = .ok (.iload 5, 2) := by decide +kernel
theorem dX8_odds_33 : decode cX8_odds 33 = .ok (.bipush 16, 2) := by decide +kernel
theorem dX8_odds_35 : decode cX8_odds 35 = .ok (.if_icmp .ge 66, 3) := by decide +kernel
theorem dX8_odds_38 : decode cX8_odds 38 = .ok (.aload_n 0, 1) := by decide +kernel
theorem dX8_odds_39 : decode cX8_odds 39 = .ok (.getfield 44, 3) := by decide +kernel
theorem dX8_odds_42 : decode cX8_odds 42 = .ok (.aload_n 0, 1) := by decide +kernel
theorem dX8_odds_43 : decode cX8_odds 43 = .ok (.getfield 12, 3) := by decide +kernel
theorem dX8_odds_46 : decode cX8_odds 46 = .ok (.getfield 98, 3) := by decide +kernel
theorem dX8_odds_49 : decode cX8_odds 49 = .ok (.invokevirtual 190, 3) := by decide +kernel
theorem dX8_odds_52 : decode cX8_odds 52 = .ok (.aload_n 0, 1) := by decide +kernel
theorem dX8_odds_53 : decode cX8_odds 53 = .ok (.getfield 44, 3) := by decide +kernel
theorem dX8_odds_56 : decode cX8_odds 56 = .ok (.iload 5, 2) := by decide +kernel
theorem dX8_odds_58 : decode cX8_odds 58 = .ok (.aload_n 0, 1) := by decide +kernel
theorem dX8_odds_59 : decode cX8_odds 59 = .ok (.getfield 12, 3) := by decide +kernel
theorem dX8_odds_62 : decode cX8_odds 62 = .ok (.getfield 64, 3) := by decide +kernel
theorem dX8_odds_65 : decode cX8_odds 65 = .ok (.getfield 132, 3) := by decide +kernel
theorem dX8_odds_68 : decode cX8_odds 68 = .ok (.invokevirtual 135, 3) := by decide +kernel
theorem dX8_odds_71 : decode cX8_odds 71 = .ok (.aload_n 3, 1) := by decide +kernel
theorem dX8_odds_72 : decode cX8_odds 72 = .ok (.aload_n 0, 1) := by decide +kernel
theorem dX8_odds_73 : decode cX8_odds 73 = .ok (.getfield 44, 3) := by decide +kernel
theorem dX8_odds_76 : decode cX8_odds 76 = .ok (.aload_n 0, 1) := by decide +kernel
theorem dX8_odds_77 : decode cX8_odds 77 = .ok (.getfield 12, 3) := by decide +kernel
theorem dX8_odds_80 : decode cX8_odds 80 = .ok (.getfield 64, 3) := by decide +kernel
theorem dX8_odds_83 : decode cX8_odds 83 = .ok (.getfield 101, 3) := by decide +kernel
theorem dX8_odds_86 : decode cX8_odds 86 = .ok (.invokevirtual 104, 3) := by decide +kernel
theorem dX8_odds_89 : decode cX8_odds 89 = .ok (.ifCond .lt 6, 3) := by decide +kernel
theorem dX8_odds_92 : decode cX8_odds 92 = .ok (.iinc 4 1, 3) := by decide +kernel
theorem dX8_odds_95 : decode cX8_odds 95 = .ok (.iinc 5 1, 3) := by decide +kernel
theorem dX8_odds_98 : decode cX8_odds 98 = .ok (.goto (-67), 3) := by decide +kernel
theorem dX8_odds_101 : decode cX8_odds 101 = .ok (.iload 4, 2) := by decide +kernel
theorem dX8_odds_103 : decode cX8_odds 103 = .ok (.iload_n 2, 1) := by decide +kernel
theorem dX8_odds_104 : decode cX8_odds 104 = .ok (.invokestatic 252, 3) := by decide +kernel
theorem dX8_odds_107 : decode cX8_odds 107 = .ok (.lreturn, 1) := by decide +kernel
theorem dX8_mean_0 : decode cX8_mean 0 = .ok (.iload_n 1, 1) := by decide +kernel
theorem dX8_mean_1 : decode cX8_mean 1 = .ok (.bipush 60, 2) := by decide +kernel
theorem dX8_mean_3 : decode cX8_mean 3 = .ok (.invokestatic 179, 3) := by decide +kernel
theorem dX8_mean_6 : decode cX8_mean 6 = .ok (.ifCond .eq 11, 3) := by decide +kernel
theorem dX8_mean_9 : decode cX8_mean 9 = .ok (.iload_n 2, 1) := by decide +kernel
theorem dX8_mean_10 : decode cX8_mean 10 = .ok (.iconst 2, 1) := by decide +kernel
theorem dX8_mean_11 : decode cX8_mean 11 = .ok (.invokestatic 69, 3) := by decide +kernel
theorem dX8_mean_14 : decode cX8_mean 14 = .ok (.ifCond .ne 7, 3) := by decide +kernel
theorem dX8_mean_17 : decode cX8_mean 17 = .ok (.ldc2_w 250, 3) := by decide +kernel
theorem dX8_mean_20 : decode cX8_mean 20 = .ok (.lreturn, 1) := by decide +kernel
theorem dX8_mean_21 : decode cX8_mean 21 = .ok (.aload_n 0, 1) := by decide +kernel
theorem dX8_mean_22 : decode cX8_mean 22 = .ok (.iload_n 1, 1) := by decide +kernel
theorem dX8_mean_23 : decode cX8_mean 23 = .ok (.invokevirtual 186, 3) := by decide +kernel
theorem dX8_mean_26 : decode cX8_mean 26 = .ok (.aload_n 0, 1) := by decide +kernel
theorem dX8_mean_27 : decode cX8_mean 27 = .ok (.getfield 44, 3) := by decide +kernel
theorem dX8_mean_30 : decode cX8_mean 30 = .ok (.invokevirtual 172, 3) := by decide +kernel
theorem dX8_mean_33 : decode cX8_mean 33 = .ok (.iload_n 2, 1) := by decide +kernel
theorem dX8_mean_34 : decode cX8_mean 34 = .ok (.invokestatic 252, 3) := by decide +kernel
theorem dX8_mean_37 : decode cX8_mean 37 = .ok (.lreturn, 1) := by decide +kernel
theorem dX8_afternoon_0 : decode cX8_afternoon 0 = .ok (.iload_n 1, 1) := by decide +kernel
theorem dX8_afternoon_1 : decode cX8_afternoon 1 = .ok (.iconst (-1), 1) := by decide +kernel
theorem dX8_afternoon_2 : decode cX8_afternoon 2 = .ok (.if_icmp .ne 14, 3) := by decide +kernel
theorem dX8_afternoon_5 : decode cX8_afternoon 5 = .ok (.aload_n 0, 1) := by decide +kernel
theorem dX8_afternoon_6 : decode cX8_afternoon 6 = .ok (.getfield 12, 3) := by decide +kernel
theorem dX8_afternoon_9 : decode cX8_afternoon 9 = .ok (.getfield 256, 3) := by decide +kernel
theorem dX8_afternoon_12 : decode cX8_afternoon 12 = .ok (.invokevirtual 225, 3) := by decide +kernel
theorem dX8_afternoon_15 : decode cX8_afternoon 15 = .ok (.ireturn, 1) := by decide +kernel
theorem dX8_afternoon_16 : decode cX8_afternoon 16 = .ok (.iload_n 1, 1) := by decide +kernel
theorem dX8_afternoon_17 : decode cX8_afternoon 17 = .ok (.iconst 3, 1) := by decide +kernel
theorem dX8_afternoon_18 : decode cX8_afternoon 18 = .ok (.invokestatic 69, 3) := by decide +kernel
theorem dX8_afternoon_21 : decode cX8_afternoon 21 = .ok (.ifCond .eq 16, 3) := by decide +kernel
theorem dX8_afternoon_24 : decode cX8_afternoon 24 = .ok (.iload_n 1, 1) := by decide +kernel
theorem dX8_afternoon_25 : decode cX8_afternoon 25 = .ok (.ifCond .eq 14, 3) := by decide +kernel
theorem dX8_afternoon_28 : decode cX8_afternoon 28 = .ok (.iload_n 2, 1) := by decide +kernel
theorem dX8_afternoon_29 : decode cX8_afternoon 29 = .ok (.bipush 16, 2) := by decide +kernel
theorem dX8_afternoon_31 : decode cX8_afternoon 31 = .ok (.invokestatic 69, 3) := by decide +kernel
theorem dX8_afternoon_34 : decode cX8_afternoon 34 = .ok (.ifCond .ne 5, 3) := by decide +kernel
theorem dX8_afternoon_37 : decode cX8_afternoon 37 = .ok (.iconst (-1), 1) := by decide +kernel
theorem dX8_afternoon_38 : decode cX8_afternoon 38 = .ok (.ireturn, 1) := by decide +kernel
theorem dX8_afternoon_39 : decode cX8_afternoon 39 = .ok (.aload_n 0, 1) := by decide +kernel
theorem dX8_afternoon_40 : decode cX8_afternoon 40 = .ok (.getfield 12, 3) := by decide +kernel
theorem dX8_afternoon_43 : decode cX8_afternoon 43 = .ok (.getfield 256, 3) := by decide +kernel
theorem dX8_afternoon_46 : decode cX8_afternoon 46 = .ok (.iload_n 1, 1) := by decide +kernel
theorem dX8_afternoon_47 : decode cX8_afternoon 47 = .ok (.iload_n 2, 1) := by decide +kernel
theorem dX8_afternoon_48 : decode cX8_afternoon 48 = .ok (.iconst 0, 1) := by decide +kernel
theorem dX8_afternoon_49 : decode cX8_afternoon 49 = .ok (.invokevirtual 230, 3) := by decide +kernel
theorem dX8_afternoon_52 : decode cX8_afternoon 52 = .ok (.ireturn, 1) := by decide +kernel
theorem dX8_ends_0 : decode cX8_ends 0 = .ok (.iload_n 1, 1) := by decide +kernel
theorem dX8_ends_1 : decode cX8_ends 1 = .ok (.iconst 2, 1) := by decide +kernel
theorem dX8_ends_2 : decode cX8_ends 2 = .ok (.invokestatic 69, 3) := by decide +kernel
theorem dX8_ends_5 : decode cX8_ends 5 = .ok (.ifCond .ne 5, 3) := by decide +kernel
theorem dX8_ends_8 : decode cX8_ends 8 = .ok (.iconst (-1), 1) := by decide +kernel
theorem dX8_ends_9 : decode cX8_ends 9 = .ok (.ireturn, 1) := by decide +kernel
theorem dX8_ends_10 : decode cX8_ends 10 = .ok (.aload_n 0, 1) := by decide +kernel
theorem dX8_ends_11 : decode cX8_ends 11 = .ok (.getfield 44, 3) := by decide +kernel
theorem dX8_ends_14 : decode cX8_ends 14 = .ok (.aload_n 0, 1) := by decide +kernel
theorem dX8_ends_15 : decode cX8_ends 15 = .ok (.getfield 12, 3) := by decide +kernel
theorem dX8_ends_18 : decode cX8_ends 18 = .ok (.getfield 98, 3) := by decide +kernel
theorem dX8_ends_21 : decode cX8_ends 21 = .ok (.invokevirtual 190, 3) := by decide +kernel
theorem dX8_ends_24 : decode cX8_ends 24 = .ok (.iconst 0, 1) := by decide +kernel
theorem dX8_ends_25 : decode cX8_ends 25 = .ok (.istore_n 2, 1) := by decide +kernel
theorem dX8_ends_26 : decode cX8_ends 26 = .ok (.iload_n 2, 1) := by decide +kernel
theorem dX8_ends_27 : decode cX8_ends 27 = .ok (.aload_n 0, 1) := by decide +kernel
theorem dX8_ends_28 : decode cX8_ends 28 = .ok (.getfield 12, 3) := by decide +kernel
theorem dX8_ends_31 : decode cX8_ends 31 = .ok (.getfield 256, 3) := by decide +kernel
theorem dX8_ends_34 : decode cX8_ends 34 = .ok (.getfield 235, 3) := by decide +kernel
theorem dX8_ends_37 : decode cX8_ends 37 = .ok (.if_icmp .ge 112, 3) := by decide +kernel
theorem dX8_ends_40 : decode cX8_ends 40 = .ok (.aload_n 0, 1) := by decide +kernel
theorem dX8_ends_41 : decode cX8_ends 41 = .ok (.getfield 12, 3) := by decide +kernel
theorem dX8_ends_44 : decode cX8_ends 44 = .ok (.getfield 256, 3) := by decide +kernel
theorem dX8_ends_47 : decode cX8_ends 47 = .ok (.getfield 238, 3) := by decide +kernel
theorem dX8_ends_50 : decode cX8_ends 50 = .ok (.iload_n 2, 1) := by decide +kernel
theorem dX8_ends_51 : decode cX8_ends 51 = .ok (.iaload, 1) := by decide +kernel
theorem dX8_ends_52 : decode cX8_ends 52 = .ok (.istore_n 3, 1) := by decide +kernel
theorem dX8_ends_53 : decode cX8_ends 53 = .ok (.aload_n 0, 1) := by decide +kernel
theorem dX8_ends_54 : decode cX8_ends 54 = .ok (.getfield 12, 3) := by decide +kernel
theorem dX8_ends_57 : decode cX8_ends 57 = .ok (.getfield 256, 3) := by decide +kernel
theorem dX8_ends_60 : decode cX8_ends 60 = .ok (.getfield 259, 3) := by decide +kernel
theorem dX8_ends_63 : decode cX8_ends 63 = .ok (.iload_n 2, 1) := by decide +kernel
theorem dX8_ends_64 : decode cX8_ends 64 = .ok (.iaload, 1) := by decide +kernel
theorem dX8_ends_65 : decode cX8_ends 65 = .ok (.ifCond .ne 21, 3) := by decide +kernel
theorem dX8_ends_68 : decode cX8_ends 68 = .ok (.aload_n 0, 1) := by decide +kernel
theorem dX8_ends_69 : decode cX8_ends 69 = .ok (.getfield 44, 3) := by decide +kernel
theorem dX8_ends_72 : decode cX8_ends 72 = .ok (.iconst 1, 1) := by decide +kernel
theorem dX8_ends_73 : decode cX8_ends 73 = .ok (.aload_n 0, 1) := by decide +kernel
theorem dX8_ends_74 : decode cX8_ends 74 = .ok (.getfield 12, 3) := by decide +kernel
theorem dX8_ends_77 : decode cX8_ends 77 = .ok (.getfield 64, 3) := by decide +kernel
theorem dX8_ends_80 : decode cX8_ends 80 = .ok (.invokevirtual 182, 3) := by decide +kernel
theorem dX8_ends_83 : decode cX8_ends 83 = .ok (.goto 60, 3) := by decide +kernel
theorem dX8_ends_86 : decode cX8_ends 86 = .ok (.aload_n 0, 1) := by decide +kernel
theorem dX8_ends_87 : decode cX8_ends 87 = .ok (.getfield 12, 3) := by decide +kernel
theorem dX8_ends_90 : decode cX8_ends 90 = .ok (.getfield 256, 3) := by decide +kernel
theorem dX8_ends_93 : decode cX8_ends 93 = .ok (.getfield 259, 3) := by decide +kernel
theorem dX8_ends_96 : decode cX8_ends 96 = .ok (.iload_n 2, 1) := by decide +kernel
theorem dX8_ends_97 : decode cX8_ends 97 = .ok (.iaload, 1) := by decide +kernel
theorem dX8_ends_98 : decode cX8_ends 98 = .ok (.iconst 1, 1) := by decide +kernel
theorem dX8_ends_99 : decode cX8_ends 99 = .ok (.if_icmp .ne 24, 3) := by decide +kernel
theorem dX8_ends_102 : decode cX8_ends 102 = .ok (.aload_n 0, 1) := by decide +kernel
theorem dX8_ends_103 : decode cX8_ends 103 = .ok (.getfield 44, 3) := by decide +kernel
theorem dX8_ends_106 : decode cX8_ends 106 = .ok (.iload_n 3, 1) := by decide +kernel
theorem dX8_ends_107 : decode cX8_ends 107 = .ok (.aload_n 0, 1) := by decide +kernel
theorem dX8_ends_108 : decode cX8_ends 108 = .ok (.getfield 12, 3) := by decide +kernel
theorem dX8_ends_111 : decode cX8_ends 111 = .ok (.getfield 64, 3) := by decide +kernel
theorem dX8_ends_114 : decode cX8_ends 114 = .ok (.getfield 132, 3) := by decide +kernel
theorem dX8_ends_117 : decode cX8_ends 117 = .ok (.invokevirtual 135, 3) := by decide +kernel
theorem dX8_ends_120 : decode cX8_ends 120 = .ok (.goto 23, 3) := by decide +kernel
theorem dX8_ends_123 : decode cX8_ends 123 = .ok (.iconst 1, 1) := by decide +kernel
theorem dX8_ends_124 : decode cX8_ends 124 = .ok (.iload_n 3, 1) := by decide +kernel
theorem dX8_ends_125 : decode cX8_ends 125 = .ok (.ishl, 1) := by decide +kernel
theorem dX8_ends_126 : decode cX8_ends 126 = .ok (.ldc 196, 2) := by decide +kernel
theorem dX8_ends_128 : decode cX8_ends 128 = .ok (.iand, 1) := by decide +kernel
theorem dX8_ends_129 : decode cX8_ends 129 = .ok (.ifCond .ne 14, 3) := by decide +kernel
theorem dX8_ends_132 : decode cX8_ends 132 = .ok (.aload_n 0, 1) := by decide +kernel
theorem dX8_ends_133 : decode cX8_ends 133 = .ok (.getfield 44, 3) := by decide +kernel
theorem dX8_ends_136 : decode cX8_ends 136 = .ok (.iload_n 3, 1) := by decide +kernel
theorem dX8_ends_137 : decode cX8_ends 137 = .ok (.iload_n 3, 1) := by decide +kernel
theorem dX8_ends_138 : decode cX8_ends 138 = .ok (.iconst 1, 1) := by decide +kernel
theorem dX8_ends_139 : decode cX8_ends 139 = .ok (.iadd, 1) := by decide +kernel
theorem dX8_ends_140 : decode cX8_ends 140 = .ok (.invokevirtual 142, 3) := by decide +kernel
theorem dX8_ends_143 : decode cX8_ends 143 = .ok (.iinc 2 1, 3) := by decide +kernel
theorem dX8_ends_146 : decode cX8_ends 146 = .ok (.goto (-120), 3) := by decide +kernel
theorem dX8_ends_149 : decode cX8_ends 149 = .ok (.iload_n 1, 1) := by decide +kernel
theorem dX8_ends_150 : decode cX8_ends 150 = .ok (.ifCond .ne 17, 3) := by decide +kernel
theorem dX8_ends_153 : decode cX8_ends 153 = .ok (.aload_n 0, 1) := by decide +kernel
theorem dX8_ends_154 : decode cX8_ends 154 = .ok (.getfield 12, 3) := by decide +kernel
theorem dX8_ends_157 : decode cX8_ends 157 = .ok (.aload_n 0, 1) := by decide +kernel
theorem dX8_ends_158 : decode cX8_ends 158 = .ok (.getfield 44, 3) := by decide +kernel
theorem dX8_ends_161 : decode cX8_ends 161 = .ok (.invokevirtual 168, 3) := by decide +kernel
theorem dX8_ends_164 : decode cX8_ends 164 = .ok (.goto 10, 3) := by decide +kernel
theorem dX8_ends_167 : decode cX8_ends 167 = .ok (.aload_n 0, 1) := by decide +kernel
theorem dX8_ends_168 : decode cX8_ends 168 = .ok (.getfield 44, 3) := by decide +kernel
theorem dX8_ends_171 : decode cX8_ends 171 = .ok (.invokevirtual 172, 3) := by decide +kernel
theorem dX8_ends_174 : decode cX8_ends 174 = .ok (.ireturn, 1) := by decide +kernel
theorem dX8_book_0 : decode cX8_book 0 = .ok (.iload_n 1, 1) := by decide +kernel
theorem dX8_book_1 : decode cX8_book 1 = .ok (.iconst (-1), 1) := by decide +kernel
theorem dX8_book_2 : decode cX8_book 2 = .ok (.if_icmp .ne 14, 3) := by decide +kernel
theorem dX8_book_5 : decode cX8_book 5 = .ok (.aload_n 0, 1) := by decide +kernel
theorem dX8_book_6 : decode cX8_book 6 = .ok (.getfield 12, 3) := by decide +kernel
theorem dX8_book_9 : decode cX8_book 9 = .ok (.getfield 262, 3) := by decide +kernel
theorem dX8_book_12 : decode cX8_book 12 = .ok (.invokevirtual 225, 3) := by decide +kernel
theorem dX8_book_15 : decode cX8_book 15 = .ok (.ireturn, 1) := by decide +kernel
theorem dX8_book_16 : decode cX8_book 16 = .ok (.iload_n 1, 1) := by decide +kernel
theorem dX8_book_17 : decode cX8_book 17 = .ok (.bipush 16, 2) := by decide +kernel
theorem dX8_book_19 : decode cX8_book 19 = .ok (.invokestatic 69, 3) := by decide +kernel
theorem dX8_book_22 : decode cX8_book 22 = .ok (.ifCond .ne 5, 3) := by decide +kernel
theorem dX8_book_25 : decode cX8_book 25 = .ok (.iconst (-1), 1) := by decide +kernel
theorem dX8_book_26 : decode cX8_book 26 = .ok (.ireturn, 1) := by decide +kernel
theorem dX8_book_27 : decode cX8_book 27 = .ok (.iload_n 2, 1) := by decide +kernel
theorem dX8_book_28 : decode cX8_book 28 = .ok (.bipush 100, 2) := by decide +kernel
theorem dX8_book_30 : decode cX8_book 30 = .ok (.invokestatic 69, 3) := by decide +kernel
theorem dX8_book_33 : decode cX8_book 33 = .ok (.ifCond .ne 6, 3) := by decide +kernel
theorem dX8_book_36 : decode cX8_book 36 = .ok (.bipush (-2), 2) := by decide +kernel
theorem dX8_book_38 : decode cX8_book 38 = .ok (.ireturn, 1) := by decide +kernel
theorem dX8_book_39 : decode cX8_book 39 = .ok (.aload_n 0, 1) := by decide +kernel
theorem dX8_book_40 : decode cX8_book 40 = .ok (.getfield 12, 3) := by decide +kernel
theorem dX8_book_43 : decode cX8_book 43 = .ok (.getfield 262, 3) := by decide +kernel
theorem dX8_book_46 : decode cX8_book 46 = .ok (.iload_n 1, 1) := by decide +kernel
theorem dX8_book_47 : decode cX8_book 47 = .ok (.iload_n 2, 1) := by decide +kernel
theorem dX8_book_48 : decode cX8_book 48 = .ok (.iconst 0, 1) := by decide +kernel
theorem dX8_book_49 : decode cX8_book 49 = .ok (.invokevirtual 230, 3) := by decide +kernel
theorem dX8_book_52 : decode cX8_book 52 = .ok (.ireturn, 1) := by decide +kernel
theorem dX8_looked_0 : decode cX8_looked 0 = .ok (.iconst 0, 1) := by decide +kernel
theorem dX8_looked_1 : decode cX8_looked 1 = .ok (.istore_n 1, 1) := by decide +kernel
theorem dX8_looked_2 : decode cX8_looked 2 = .ok (.iload_n 1, 1) := by decide +kernel
theorem dX8_looked_3 : decode cX8_looked 3 = .ok (.aload_n 0, 1) := by decide +kernel
theorem dX8_looked_4 : decode cX8_looked 4 = .ok (.getfield 12, 3) := by decide +kernel
theorem dX8_looked_7 : decode cX8_looked 7 = .ok (.getfield 262, 3) := by decide +kernel
theorem dX8_looked_10 : decode cX8_looked 10 = .ok (.getfield 235, 3) := by decide +kernel
theorem dX8_looked_13 : decode cX8_looked 13 = .ok (.if_icmp .ge 49, 3) := by decide +kernel
theorem dX8_looked_16 : decode cX8_looked 16 = .ok (.aload_n 0, 1) := by decide +kernel
theorem dX8_looked_17 : decode cX8_looked 17 = .ok (.getfield 12, 3) := by decide +kernel
theorem dX8_looked_20 : decode cX8_looked 20 = .ok (.getfield 98, 3) := by decide +kernel
theorem dX8_looked_23 : decode cX8_looked 23 = .ok (.getfield 115, 3) := by decide +kernel
theorem dX8_looked_26 : decode cX8_looked 26 = .ok (.aload_n 0, 1) := by decide +kernel
theorem dX8_looked_27 : decode cX8_looked 27 = .ok (.getfield 12, 3) := by decide +kernel
theorem dX8_looked_30 : decode cX8_looked 30 = .ok (.getfield 262, 3) := by decide +kernel
theorem dX8_looked_33 : decode cX8_looked 33 = .ok (.getfield 259, 3) := by decide +kernel
theorem dX8_looked_36 : decode cX8_looked 36 = .ok (.iload_n 1, 1) := by decide +kernel
theorem dX8_looked_37 : decode cX8_looked 37 = .ok (.iaload, 1) := by decide +kernel
theorem dX8_looked_38 : decode cX8_looked 38 = .ok (.iaload, 1) := by decide +kernel
theorem dX8_looked_39 : decode cX8_looked 39 = .ok (.aload_n 0, 1) := by decide +kernel
theorem dX8_looked_40 : decode cX8_looked 40 = .ok (.getfield 12, 3) := by decide +kernel
theorem dX8_looked_43 : decode cX8_looked 43 = .ok (.getfield 262, 3) := by decide +kernel
theorem dX8_looked_46 : decode cX8_looked 46 = .ok (.getfield 238, 3) := by decide +kernel
theorem dX8_looked_49 : decode cX8_looked 49 = .ok (.iload_n 1, 1) := by decide +kernel
theorem dX8_looked_50 : decode cX8_looked 50 = .ok (.iaload, 1) := by decide +kernel
theorem dX8_looked_51 : decode cX8_looked 51 = .ok (.if_icmp .eq 5, 3) := by decide +kernel
theorem dX8_looked_54 : decode cX8_looked 54 = .ok (.iload_n 1, 1) := by decide +kernel
theorem dX8_looked_55 : decode cX8_looked 55 = .ok (.ireturn, 1) := by decide +kernel
theorem dX8_looked_56 : decode cX8_looked 56 = .ok (.iinc 1 1, 3) := by decide +kernel
theorem dX8_looked_59 : decode cX8_looked 59 = .ok (.goto (-57), 3) := by decide +kernel
theorem dX8_looked_62 : decode cX8_looked 62 = .ok (.bipush (-5), 2) := by decide +kernel
theorem dX8_looked_64 : decode cX8_looked 64 = .ok (.ireturn, 1) := by decide +kernel
theorem dX8_judge_0 : decode cX8_judge 0 = .ok (.iload_n 1, 1) := by decide +kernel
theorem dX8_judge_1 : decode cX8_judge 1 = .ok (.bipush 6, 2) := by decide +kernel
theorem dX8_judge_3 : decode cX8_judge 3 = .ok (.invokestatic 69, 3) := by decide +kernel
theorem dX8_judge_6 : decode cX8_judge 6 = .ok (.ifCond .ne 5, 3) := by decide +kernel
theorem dX8_judge_9 : decode cX8_judge 9 = .ok (.iconst (-1), 1) := by decide +kernel
theorem dX8_judge_10 : decode cX8_judge 10 = .ok (.ireturn, 1) := by decide +kernel
theorem dX8_judge_11 : decode cX8_judge 11 = .ok (.aload_n 0, 1) := by decide +kernel
theorem dX8_judge_12 : decode cX8_judge 12 = .ok (.getfield 37, 3) := by decide +kernel
theorem dX8_judge_15 : decode cX8_judge 15 = .ok (.iload_n 1, 1) := by decide +kernel
theorem dX8_judge_16 : decode cX8_judge 16 = .ok (.aaload, 1) := by decide +kernel
theorem dX8_judge_17 : decode cX8_judge 17 = .ok (.astore_n 3, 1) := by decide +kernel
theorem dX8_judge_18 : decode cX8_judge 18 = .ok (.aload_n 3, 1) := by decide +kernel
theorem dX8_judge_19 : decode cX8_judge 19 = .ok (.invokevirtual 265, 3) := by decide +kernel
theorem dX8_judge_22 : decode cX8_judge 22 = .ok (.ifCond .eq 6, 3) := by decide +kernel
theorem dX8_judge_25 : decode cX8_judge 25 = .ok (.bipush 100, 2) := by decide +kernel
theorem dX8_judge_27 : decode cX8_judge 27 = .ok (.ireturn, 1) := by decide +kernel
theorem dX8_judge_28 : decode cX8_judge 28 = .ok (.aload_n 3, 1) := by decide +kernel
theorem dX8_judge_29 : decode cX8_judge 29 = .ok (.getfield 268, 3) := by decide +kernel
theorem dX8_judge_32 : decode cX8_judge 32 = .ok (.ifCond .eq 6, 3) := by decide +kernel
theorem dX8_judge_35 : decode cX8_judge 35 = .ok (.bipush (-12), 2) := by decide +kernel
theorem dX8_judge_37 : decode cX8_judge 37 = .ok (.ireturn, 1) := by decide +kernel
theorem dX8_judge_38 : decode cX8_judge 38 = .ok (.iload_n 2, 1) := by decide +kernel
theorem dX8_judge_39 : decode cX8_judge 39 = .ok (.aload_n 3, 1) := by decide +kernel
theorem dX8_judge_40 : decode cX8_judge 40 = .ok (.getfield 271, 3) := by decide +kernel
theorem dX8_judge_43 : decode cX8_judge 43 = .ok (.invokestatic 69, 3) := by decide +kernel
theorem dX8_judge_46 : decode cX8_judge 46 = .ok (.ifCond .ne 6, 3) := by decide +kernel
theorem dX8_judge_49 : decode cX8_judge 49 = .ok (.bipush 100, 2) := by decide +kernel
theorem dX8_judge_51 : decode cX8_judge 51 = .ok (.ireturn, 1) := by decide +kernel
theorem dX8_judge_52 : decode cX8_judge 52 = .ok (.bipush 16, 2) := by decide +kernel
theorem dX8_judge_54 : decode cX8_judge 54 = .ok (.aload_n 3, 1) := by decide +kernel
theorem dX8_judge_55 : decode cX8_judge 55 = .ok (.getfield 271, 3) := by decide +kernel
theorem dX8_judge_58 : decode cX8_judge 58 = .ok (.iload_n 2, 1) := by decide +kernel
theorem dX8_judge_59 : decode cX8_judge 59 = .ok (.isub, 1) := by decide +kernel
theorem dX8_judge_60 : decode cX8_judge 60 = .ok (.invokestatic 272, 3) := by decide +kernel
theorem dX8_judge_63 : decode cX8_judge 63 = .ok (.istore 4, 2) := by decide +kernel
theorem dX8_judge_65 : decode cX8_judge 65 = .ok (.iconst 0, 1) := by decide +kernel
theorem dX8_judge_66 : decode cX8_judge 66 = .ok (.istore 5, 2) := by decide +kernel
theorem dX8_judge_68 : decode cX8_judge 68 = .ok (.iload 5, 2) := by decide +kernel
theorem dX8_judge_70 : decode cX8_judge 70 = .ok (.iload 4, 2) := by decide +kernel
theorem dX8_judge_72 : decode cX8_judge 72 = .ok (.if_icmp .ge 39, 3) := by decide +kernel
theorem dX8_judge_75 : decode cX8_judge 75 = .ok (.aload_n 3, 1) := by decide +kernel
theorem dX8_judge_76 : decode cX8_judge 76 = .ok (.getfield 277, 3) := by decide +kernel
theorem dX8_judge_79 : decode cX8_judge 79 = .ok (.iload_n 2, 1) := by decide +kernel
theorem dX8_judge_80 : decode cX8_judge 80 = .ok (.iload 5, 2) := by decide +kernel
theorem dX8_judge_82 : decode cX8_judge 82 = .ok (.iadd, 1) := by decide +kernel
theorem dX8_judge_83 : decode cX8_judge 83 = .ok (.laload, 1) := by decide +kernel
theorem dX8_judge_84 : decode cX8_judge 84 = .ok (.aload_n 0, 1) := by decide +kernel
theorem dX8_judge_85 : decode cX8_judge 85 = .ok (.getfield 12, 3) := by decide +kernel
theorem dX8_judge_88 : decode cX8_judge 88 = .ok (.getfield 98, 3) := by decide +kernel
theorem dX8_judge_91 : decode cX8_judge 91 = .ok (.getfield 115, 3) := by decide +kernel
theorem dX8_judge_94 : decode cX8_judge 94 = .ok (.iload 5, 2) := by decide +kernel
theorem dX8_judge_96 : decode cX8_judge 96 = .ok (.iaload, 1) := by decide +kernel
theorem dX8_judge_97 : decode cX8_judge 97 = .ok (.i2l, 1) := by decide +kernel
theorem dX8_judge_98 : decode cX8_judge 98 = .ok (.lcmp, 1) := by decide +kernel
theorem dX8_judge_99 : decode cX8_judge 99 = .ok (.ifCond .eq 6, 3) := by decide +kernel
theorem dX8_judge_102 : decode cX8_judge 102 = .ok (.iload 5, 2) := by decide +kernel
theorem dX8_judge_104 : decode cX8_judge 104 = .ok (.ireturn, 1) := by decide +kernel
theorem dX8_judge_105 : decode cX8_judge 105 = .ok (.iinc 5 1, 3) := by decide +kernel
theorem dX8_judge_108 : decode cX8_judge 108 = .ok (.goto (-40), 3) := by decide +kernel
theorem dX8_judge_111 : decode cX8_judge 111 = .ok (.iload 4, 2) := by decide +kernel
theorem dX8_judge_113 : decode cX8_judge 113 = .ok (.bipush 16, 2) := by decide +kernel
theorem dX8_judge_115 : decode cX8_judge 115 = .ok (.if_icmp .ge 11, 3) := by decide +kernel
theorem dX8_judge_118 : decode cX8_judge 118 = .ok (.bipush 100, 2) := by decide +kernel
theorem dX8_judge_120 : decode cX8_judge 120 = .ok (.iload 4, 2) := by decide +kernel
theorem dX8_judge_122 : decode cX8_judge 122 = .ok (.iadd, 1) := by decide +kernel
theorem dX8_judge_123 : decode cX8_judge 123 = .ok (.goto 5, 3) := by decide +kernel
theorem dX8_judge_126 : decode cX8_judge 126 = .ok (.bipush (-5), 2) := by decide +kernel
theorem dX8_judge_128 : decode cX8_judge 128 = .ok (.ireturn, 1) := by decide +kernel
theorem dX8_image_0 : decode cX8_image 0 = .ok (.aload_n 0, 1) := by decide +kernel
theorem dX8_image_1 : decode cX8_image 1 = .ok (.getfield 18, 3) := by decide +kernel
theorem dX8_image_4 : decode cX8_image 4 = .ok (.aload_n 0, 1) := by decide +kernel
theorem dX8_image_5 : decode cX8_image 5 = .ok (.getfield 12, 3) := by decide +kernel
theorem dX8_image_8 : decode cX8_image 8 = .ok (.invokevirtual 281, 3) := by decide +kernel
theorem dX8_image_11 : decode cX8_image 11 = .ok (.aload_n 0, 1) := by decide +kernel
theorem dX8_image_12 : decode cX8_image 12 = .ok (.iconst 1, 1) := by decide +kernel
theorem dX8_image_13 : decode cX8_image 13 = .ok (.putfield 284, 3) := by decide +kernel
theorem dX8_image_16 : decode cX8_image 16 = .ok (.aload_n 0, 1) := by decide +kernel
theorem dX8_image_17 : decode cX8_image 17 = .ok (.getfield 18, 3) := by decide +kernel
theorem dX8_image_20 : decode cX8_image 20 = .ok (.getfield 73, 3) := by decide +kernel
theorem dX8_image_23 : decode cX8_image 23 = .ok (.ireturn, 1) := by decide +kernel
theorem dX8_undo_0 : decode cX8_undo 0 = .ok (.aload_n 0, 1) := by decide +kernel
theorem dX8_undo_1 : decode cX8_undo 1 = .ok (.getfield 284, 3) := by decide +kernel
theorem dX8_undo_4 : decode cX8_undo 4 = .ok (.ifCond .ne 6, 3) := by decide +kernel
theorem dX8_undo_7 : decode cX8_undo 7 = .ok (.bipush (-3), 2) := by decide +kernel
theorem dX8_undo_9 : decode cX8_undo 9 = .ok (.ireturn, 1) := by decide +kernel
theorem dX8_undo_10 : decode cX8_undo 10 = .ok (.aload_n 0, 1) := by decide +kernel
theorem dX8_undo_11 : decode cX8_undo 11 = .ok (.getfield 12, 3) := by decide +kernel
theorem dX8_undo_14 : decode cX8_undo 14 = .ok (.aload_n 0, 1) := by decide +kernel
theorem dX8_undo_15 : decode cX8_undo 15 = .ok (.getfield 18, 3) := by decide +kernel
theorem dX8_undo_18 : decode cX8_undo 18 = .ok (.invokevirtual 281, 3) := by decide +kernel
theorem dX8_undo_21 : decode cX8_undo 21 = .ok (.aload_n 0, 1) := by decide +kernel
theorem dX8_undo_22 : decode cX8_undo 22 = .ok (.getfield 12, 3) := by decide +kernel
theorem dX8_undo_25 : decode cX8_undo 25 = .ok (.getfield 73, 3) := by decide +kernel
theorem dX8_undo_28 : decode cX8_undo 28 = .ok (.ireturn, 1) := by decide +kernel
theorem dX8_act_0 : decode cX8_act 0 = .ok (.aload_n 0, 1) := by decide +kernel
theorem dX8_act_1 : decode cX8_act 1 = .ok (.getfield 31, 3) := by decide +kernel
theorem dX8_act_4 : decode cX8_act 4 = .ok (.iconst 0, 1) := by decide +kernel
theorem dX8_act_5 : decode cX8_act 5 = .ok (.putfield 288, 3) := by decide +kernel
theorem dX8_act_8 : decode cX8_act 8 = .ok (.aload_n 0, 1) := by decide +kernel
theorem dX8_act_9 : decode cX8_act 9 = .ok (.getfield 12, 3) := by decide +kernel
theorem dX8_act_12 : decode cX8_act 12 = .ok (.iload_n 1, 1) := by decide +kernel
theorem dX8_act_13 : decode cX8_act 13 = .ok (.invokevirtual 85, 3) := by decide +kernel
theorem dX8_act_16 : decode cX8_act 16 = .ok (.astore 4, 2) := by decide +kernel
theorem dX8_act_18 : decode cX8_act 18 = .ok (.aload 4, 2) := by decide +kernel
theorem dX8_act_20 : decode cX8_act 20 = .ok (.ifnull 11, 3) := by decide +kernel
theorem dX8_act_23 : decode cX8_act 23 = .ok (.iload_n 2, 1) := by decide +kernel
theorem dX8_act_24 : decode cX8_act 24 = .ok (.iconst 3, 1) := by decide +kernel
theorem dX8_act_25 : decode cX8_act 25 = .ok (.invokestatic 69, 3) := by decide +kernel
theorem dX8_act_28 : decode cX8_act 28 = .ok (.ifCond .ne 5, 3) := by decide +kernel
theorem dX8_act_31 : decode cX8_act 31 = .ok (.iconst 0, 1) := by decide +kernel
theorem dX8_act_32 : decode cX8_act 32 = .ok (.ireturn, 1) := by decide +kernel
theorem dX8_act_33 : decode cX8_act 33 = .ok (.aload_n 0, 1) := by decide +kernel
theorem dX8_act_34 : decode cX8_act 34 = .ok (.getfield 31, 3) := by decide +kernel
theorem dX8_act_37 : decode cX8_act 37 = .ok (.iload_n 1, 1) := by decide +kernel
theorem dX8_act_38 : decode cX8_act 38 = .ok (.putfield 291, 3) := by decide +kernel
theorem dX8_act_41 : decode cX8_act 41 = .ok (.aload_n 0, 1) := by decide +kernel
theorem dX8_act_42 : decode cX8_act 42 = .ok (.getfield 31, 3) := by decide +kernel
theorem dX8_act_45 : decode cX8_act 45 = .ok (.aload 4, 2) := by decide +kernel
theorem dX8_act_47 : decode cX8_act 47 = .ok (.getfield 89, 3) := by decide +kernel
theorem dX8_act_50 : decode cX8_act 50 = .ok (.putfield 294, 3) := by decide +kernel
theorem dX8_act_53 : decode cX8_act 53 = .ok (.aload_n 0, 1) := by decide +kernel
theorem dX8_act_54 : decode cX8_act 54 = .ok (.getfield 31, 3) := by decide +kernel
theorem dX8_act_57 : decode cX8_act 57 = .ok (.aload 4, 2) := by decide +kernel
theorem dX8_act_59 : decode cX8_act 59 = .ok (.getfield 92, 3) := by decide +kernel
theorem dX8_act_62 : decode cX8_act 62 = .ok (.putfield 295, 3) := by decide +kernel
theorem dX8_act_65 : decode cX8_act 65 = .ok (.aload_n 0, 1) := by decide +kernel
theorem dX8_act_66 : decode cX8_act 66 = .ok (.getfield 31, 3) := by decide +kernel
theorem dX8_act_69 : decode cX8_act 69 = .ok (.aload 4, 2) := by decide +kernel
theorem dX8_act_71 : decode cX8_act 71 = .ok (.getfield 89, 3) := by decide +kernel
theorem dX8_act_74 : decode cX8_act 74 = .ok (.iload_n 2, 1) := by decide +kernel
theorem dX8_act_75 : decode cX8_act 75 = .ok (.iload_n 3, 1) := by decide +kernel
theorem dX8_act_76 : decode cX8_act 76 = .ok (.iconst 0, 1) := by decide +kernel
theorem dX8_act_77 : decode cX8_act 77 = .ok (.invokevirtual 296, 3) := by decide +kernel
theorem dX8_act_80 : decode cX8_act 80 = .ok (.ireturn, 1) := by decide +kernel
theorem dX8_trace_0 : decode cX8_trace 0 = .ok (.iload_n 1, 1) := by decide +kernel
theorem dX8_trace_1 : decode cX8_trace 1 = .ok (.aload_n 0, 1) := by decide +kernel
theorem dX8_trace_2 : decode cX8_trace 2 = .ok (.getfield 31, 3) := by decide +kernel
theorem dX8_trace_5 : decode cX8_trace 5 = .ok (.getfield 288, 3) := by decide +kernel
theorem dX8_trace_8 : decode cX8_trace 8 = .ok (.bipush 20, 2) := by decide +kernel
theorem dX8_trace_10 : decode cX8_trace 10 = .ok (.invokestatic 272, 3) := by decide +kernel
theorem dX8_trace_13 : decode cX8_trace 13 = .ok (.invokestatic 69, 3) := by decide +kernel
theorem dX8_trace_16 : decode cX8_trace 16 = .ok (.ifCond .eq 15, 3) := by decide +kernel
theorem dX8_trace_19 : decode cX8_trace 19 = .ok (.aload_n 0, 1) := by decide +kernel
theorem dX8_trace_20 : decode cX8_trace 20 = .ok (.getfield 31, 3) := by decide +kernel
theorem dX8_trace_23 : decode cX8_trace 23 = .ok (.getfield 300, 3) := by decide +kernel
theorem dX8_trace_26 : decode cX8_trace 26 = .ok (.iload_n 1, 1) := by decide +kernel
theorem dX8_trace_27 : decode cX8_trace 27 = .ok (.iaload, 1) := by decide +kernel
theorem dX8_trace_28 : decode cX8_trace 28 = .ok (.goto 4, 3) := by decide +kernel
theorem dX8_trace_31 : decode cX8_trace 31 = .ok (.iconst (-1), 1) := by decide +kernel
theorem dX8_trace_32 : decode cX8_trace 32 = .ok (.ireturn, 1) := by decide +kernel
theorem dX8_taken_0 : decode cX8_taken 0 = .ok (.iload_n 2, 1) := by decide +kernel
theorem dX8_taken_1 : decode cX8_taken 1 = .ok (.bipush 7, 2) := by decide +kernel
theorem dX8_taken_3 : decode cX8_taken 3 = .ok (.invokestatic 69, 3) := by decide +kernel
theorem dX8_taken_6 : decode cX8_taken 6 = .ok (.ifCond .ne 6, 3) := by decide +kernel
theorem dX8_taken_9 : decode cX8_taken 9 = .ok (.bipush (-2), 2) := by decide +kernel
theorem dX8_taken_11 : decode cX8_taken 11 = .ok (.ireturn, 1) := by decide +kernel
theorem dX8_taken_12 : decode cX8_taken 12 = .ok (.aload_n 0, 1) := by decide +kernel
theorem dX8_taken_13 : decode cX8_taken 13 = .ok (.getfield 12, 3) := by decide +kernel
theorem dX8_taken_16 : decode cX8_taken 16 = .ok (.iload_n 1, 1) := by decide +kernel
theorem dX8_taken_17 : decode cX8_taken 17 = .ok (.invokevirtual 85, 3) := by decide +kernel
theorem dX8_taken_20 : decode cX8_taken 20 = .ok (.astore_n 3, 1) := by decide +kernel
theorem dX8_taken_21 : decode cX8_taken 21 = .ok (.aload_n 3, 1) := by decide +kernel
theorem dX8_taken_22 : decode cX8_taken 22 = .ok (.ifnonnull 6, 3) := by decide +kernel
theorem dX8_taken_25 : decode cX8_taken 25 = .ok (.bipush (-11), 2) := by decide +kernel
theorem dX8_taken_27 : decode cX8_taken 27 = .ok (.ireturn, 1) := by decide +kernel
theorem dX8_taken_28 : decode cX8_taken 28 = .ok (.aload_n 3, 1) := by decide +kernel
theorem dX8_taken_29 : decode cX8_taken 29 = .ok (.getfield 89, 3) := by decide +kernel
theorem dX8_taken_32 : decode cX8_taken 32 = .ok (.istore 4, 2) := by decide +kernel
theorem dX8_taken_34 : decode cX8_taken 34 = .ok (.iconst 0, 1) := by decide +kernel
theorem dX8_taken_35 : decode cX8_taken 35 = .ok (.istore 5, 2) := by decide +kernel
theorem dX8_taken_37 : decode cX8_taken 37 = .ok (.iload 5, 2) := by decide +kernel
theorem dX8_taken_39 : decode cX8_taken 39 = .ok (.bipush 7, 2) := by decide +kernel
theorem dX8_taken_41 : decode cX8_taken 41 = .ok (.if_icmp .ge 33, 3) := by decide +kernel
theorem dX8_taken_44 : decode cX8_taken 44 = .ok (.iload 4, 2) := by decide +kernel
theorem dX8_taken_46 : decode cX8_taken 46 = .ok (.ifCond .lt 28, 3) := by decide +kernel
theorem dX8_taken_49 : decode cX8_taken 49 = .ok (.iload 4, 2) := by decide +kernel
theorem dX8_taken_51 : decode cX8_taken 51 = .ok (.iload_n 2, 1) := by decide +kernel
theorem dX8_taken_52 : decode cX8_taken 52 = .ok (.if_icmp .ne 8, 3) := by decide +kernel
theorem dX8_taken_55 : decode cX8_taken 55 = .ok (.aload_n 3, 1) := by decide +kernel
theorem dX8_taken_56 : decode cX8_taken 56 = .ok (.getfield 89, 3) := by decide +kernel
theorem dX8_taken_59 : decode cX8_taken 59 = .ok (.ireturn, 1) := by decide +kernel
theorem dX8_taken_60 : decode cX8_taken 60 = .ok (.getstatic 303, 3) := by decide +kernel
theorem dX8_taken_63 : decode cX8_taken 63 = .ok (.iload 4, 2) := by decide +kernel
theorem dX8_taken_65 : decode cX8_taken 65 = .ok (.iaload, 1) := by decide +kernel
theorem dX8_taken_66 : decode cX8_taken 66 = .ok (.istore 4, 2) := by decide +kernel
theorem dX8_taken_68 : decode cX8_taken 68 = .ok (.iinc 5 1, 3) := by decide +kernel
theorem dX8_taken_71 : decode cX8_taken 71 = .ok (.goto (-34), 3) := by decide +kernel
theorem dX8_taken_74 : decode cX8_taken 74 = .ok (.bipush (-12), 2) := by decide +kernel
theorem dX8_taken_76 : decode cX8_taken 76 = .ok (.ireturn, 1) := by decide +kernel
theorem dX8_count_0 : decode cX8_count 0 = .ok (.iload_n 1, 1) := by decide +kernel
theorem dX8_count_1 : decode cX8_count 1 = .ok (.tableswitch 105 0 6 #[43, 51, 56, 67, 78, 89, 97], 43) := by decide +kernel
theorem dX8_count_44 : decode cX8_count 44 = .ok (.aload_n 0, 1) := by decide +kernel
theorem dX8_count_45 : decode cX8_count 45 = .ok (.getfield 12, 3) := by decide +kernel
theorem dX8_count_48 : decode cX8_count 48 = .ok (.getfield 73, 3) := by decide +kernel
theorem dX8_count_51 : decode cX8_count 51 = .ok (.ireturn, 1) := by decide +kernel
theorem dX8_count_52 : decode cX8_count 52 = .ok (.aload_n 0, 1) := by decide +kernel
theorem dX8_count_53 : decode cX8_count 53 = .ok (.getfield 152, 3) := by decide +kernel
theorem dX8_count_56 : decode cX8_count 56 = .ok (.ireturn, 1) := by decide +kernel
theorem dX8_count_57 : decode cX8_count 57 = .ok (.aload_n 0, 1) := by decide +kernel
theorem dX8_count_58 : decode cX8_count 58 = .ok (.getfield 12, 3) := by decide +kernel
theorem dX8_count_61 : decode cX8_count 61 = .ok (.getfield 221, 3) := by decide +kernel
theorem dX8_count_64 : decode cX8_count 64 = .ok (.getfield 235, 3) := by decide +kernel
theorem dX8_count_67 : decode cX8_count 67 = .ok (.ireturn, 1) := by decide +kernel
theorem dX8_count_68 : decode cX8_count 68 = .ok (.aload_n 0, 1) := by decide +kernel
theorem dX8_count_69 : decode cX8_count 69 = .ok (.getfield 12, 3) := by decide +kernel
theorem dX8_count_72 : decode cX8_count 72 = .ok (.getfield 256, 3) := by decide +kernel
theorem dX8_count_75 : decode cX8_count 75 = .ok (.getfield 235, 3) := by decide +kernel
theorem dX8_count_78 : decode cX8_count 78 = .ok (.ireturn, 1) := by decide +kernel
theorem dX8_count_79 : decode cX8_count 79 = .ok (.aload_n 0, 1) := by decide +kernel
theorem dX8_count_80 : decode cX8_count 80 = .ok (.getfield 12, 3) := by decide +kernel
theorem dX8_count_83 : decode cX8_count 83 = .ok (.getfield 262, 3) := by decide +kernel
theorem dX8_count_86 : decode cX8_count 86 = .ok (.getfield 235, 3) := by decide +kernel
theorem dX8_count_89 : decode cX8_count 89 = .ok (.ireturn, 1) := by decide +kernel
theorem dX8_count_90 : decode cX8_count 90 = .ok (.aload_n 0, 1) := by decide +kernel
theorem dX8_count_91 : decode cX8_count 91 = .ok (.getfield 24, 3) := by decide +kernel
theorem dX8_count_94 : decode cX8_count 94 = .ok (.getfield 149, 3) := by decide +kernel
theorem dX8_count_97 : decode cX8_count 97 = .ok (.ireturn, 1) := by decide +kernel
theorem dX8_count_98 : decode cX8_count 98 = .ok (.aload_n 0, 1) := by decide +kernel
theorem dX8_count_99 : decode cX8_count 99 = .ok (.getfield 31, 3) := by decide +kernel
theorem dX8_count_102 : decode cX8_count 102 = .ok (.getfield 288, 3) := by decide +kernel
theorem dX8_count_105 : decode cX8_count 105 = .ok (.ireturn, 1) := by decide +kernel
theorem dX8_count_106 : decode cX8_count 106 = .ok (.bipush (-2), 2) := by decide +kernel
theorem dX8_count_108 : decode cX8_count 108 = .ok (.ireturn, 1) := by decide +kernel
theorem dX8_tape_0 : decode cX8_tape 0 = .ok (.iload_n 1, 1) := by decide +kernel
theorem dX8_tape_1 : decode cX8_tape 1 = .ok (.bipush 6, 2) := by decide +kernel
theorem dX8_tape_3 : decode cX8_tape 3 = .ok (.invokestatic 69, 3) := by decide +kernel
theorem dX8_tape_6 : decode cX8_tape 6 = .ok (.ifCond .ne 5, 3) := by decide +kernel
theorem dX8_tape_9 : decode cX8_tape 9 = .ok (.iconst (-1), 1) := by decide +kernel
theorem dX8_tape_10 : decode cX8_tape 10 = .ok (.ireturn, 1) := by decide +kernel
theorem dX8_tape_11 : decode cX8_tape 11 = .ok (.iload_n 2, 1) := by decide +kernel
theorem dX8_tape_12 : decode cX8_tape 12 = .ok (.iconst (-1), 1) := by decide +kernel
theorem dX8_tape_13 : decode cX8_tape 13 = .ok (.if_icmp .ne 16, 3) := by decide +kernel
theorem dX8_tape_16 : decode cX8_tape 16 = .ok (.aload_n 0, 1) := by decide +kernel
theorem dX8_tape_17 : decode cX8_tape 17 = .ok (.getfield 37, 3) := by decide +kernel
theorem dX8_tape_20 : decode cX8_tape 20 = .ok (.iload_n 1, 1) := by decide +kernel
theorem dX8_tape_21 : decode cX8_tape 21 = .ok (.aaload, 1) := by decide +kernel
theorem dX8_tape_22 : decode cX8_tape 22 = .ok (.iload_n 2, 1) := by decide +kernel
theorem dX8_tape_23 : decode cX8_tape 23 = .ok (.iconst 0, 1) := by decide +kernel
theorem dX8_tape_24 : decode cX8_tape 24 = .ok (.invokevirtual 306, 3) := by decide +kernel
theorem dX8_tape_27 : decode cX8_tape 27 = .ok (.iconst 1, 1) := by decide +kernel
theorem dX8_tape_28 : decode cX8_tape 28 = .ok (.ireturn, 1) := by decide +kernel
theorem dX8_tape_29 : decode cX8_tape 29 = .ok (.iload_n 2, 1) := by decide +kernel
theorem dX8_tape_30 : decode cX8_tape 30 = .ok (.iconst 5, 1) := by decide +kernel
theorem dX8_tape_31 : decode cX8_tape 31 = .ok (.invokestatic 69, 3) := by decide +kernel
theorem dX8_tape_34 : decode cX8_tape 34 = .ok (.ifCond .eq 9, 3) := by decide +kernel
theorem dX8_tape_37 : decode cX8_tape 37 = .ok (.iload_n 3, 1) := by decide +kernel
theorem dX8_tape_38 : decode cX8_tape 38 = .ok (.bipush 60, 2) := by decide +kernel
theorem dX8_tape_40 : decode cX8_tape 40 = .ok (.if_icmp .le 6, 3) := by decide +kernel
theorem dX8_tape_43 : decode cX8_tape 43 = .ok (.bipush (-2), 2) := by decide +kernel
theorem dX8_tape_45 : decode cX8_tape 45 = .ok (.ireturn, 1) := by decide +kernel
theorem dX8_tape_46 : decode cX8_tape 46 = .ok (.iload_n 3, 1) := by decide +kernel
theorem dX8_tape_47 : decode cX8_tape 47 = .ok (.ifCond .ge 6, 3) := by decide +kernel
theorem dX8_tape_50 : decode cX8_tape 50 = .ok (.bipush (-14), 2) := by decide +kernel
theorem dX8_tape_52 : decode cX8_tape 52 = .ok (.ireturn, 1) := by decide +kernel
theorem dX8_tape_53 : decode cX8_tape 53 = .ok (.aload_n 0, 1) := by decide +kernel
theorem dX8_tape_54 : decode cX8_tape 54 = .ok (.getfield 37, 3) := by decide +kernel
theorem dX8_tape_57 : decode cX8_tape 57 = .ok (.iload_n 1, 1) := by decide +kernel
theorem dX8_tape_58 : decode cX8_tape 58 = .ok (.aaload, 1) := by decide +kernel
theorem dX8_tape_59 : decode cX8_tape 59 = .ok (.iload_n 2, 1) := by decide +kernel
theorem dX8_tape_60 : decode cX8_tape 60 = .ok (.iload_n 3, 1) := by decide +kernel
theorem dX8_tape_61 : decode cX8_tape 61 = .ok (.invokevirtual 306, 3) := by decide +kernel
theorem dX8_tape_64 : decode cX8_tape 64 = .ok (.iconst 1, 1) := by decide +kernel
theorem dX8_tape_65 : decode cX8_tape 65 = .ok (.ireturn, 1) := by decide +kernel
theorem dX8_item_0 : decode cX8_item 0 = .ok (.iload_n 1, 1) := by decide +kernel
theorem dX8_item_1 : decode cX8_item 1 = .ok (.bipush 6, 2) := by decide +kernel
theorem dX8_item_3 : decode cX8_item 3 = .ok (.invokestatic 69, 3) := by decide +kernel
theorem dX8_item_6 : decode cX8_item 6 = .ok (.ifCond .ne 5, 3) := by decide +kernel
theorem dX8_item_9 : decode cX8_item 9 = .ok (.iconst (-1), 1) := by decide +kernel
theorem dX8_item_10 : decode cX8_item 10 = .ok (.ireturn, 1) := by decide +kernel
theorem dX8_item_11 : decode cX8_item 11 = .ok (.aload_n 0, 1) := by decide +kernel
theorem dX8_item_12 : decode cX8_item 12 = .ok (.getfield 37, 3) := by decide +kernel
theorem dX8_item_15 : decode cX8_item 15 = .ok (.iload_n 1, 1) := by decide +kernel
theorem dX8_item_16 : decode cX8_item 16 = .ok (.aaload, 1) := by decide +kernel
theorem dX8_item_17 : decode cX8_item 17 = .ok (.astore 5, 2) := by decide +kernel
theorem dX8_item_19 : decode cX8_item 19 = .ok (.aload 5, 2) := by decide +kernel
theorem dX8_item_21 : decode cX8_item 21 = .ok (.invokevirtual 265, 3) := by decide +kernel
theorem dX8_item_24 : decode cX8_item 24 = .ok (.ifCond .eq 6, 3) := by decide +kernel
theorem dX8_item_27 : decode cX8_item 27 = .ok (.bipush (-11), 2) := by decide +kernel
theorem dX8_item_29 : decode cX8_item 29 = .ok (.ireturn, 1) := by decide +kernel
theorem dX8_item_30 : decode cX8_item 30 = .ok (.iload_n 2, 1) := by decide +kernel
theorem dX8_item_31 : decode cX8_item 31 = .ok (.aload 5, 2) := by decide +kernel
theorem dX8_item_33 : decode cX8_item 33 = .ok (.getfield 271, 3) := by decide +kernel
theorem dX8_item_36 : decode cX8_item 36 = .ok (.invokestatic 69, 3) := by decide +kernel
theorem dX8_item_39 : decode cX8_item 39 = .ok (.ifCond .ne 6, 3) := by decide +kernel
theorem dX8_item_42 : decode cX8_item 42 = .ok (.bipush (-13), 2) := by decide +kernel
theorem dX8_item_44 : decode cX8_item 44 = .ok (.ireturn, 1) := by decide +kernel
theorem dX8_item_45 : decode cX8_item 45 = .ok (.aload 5, 2) := by decide +kernel
theorem dX8_item_47 : decode cX8_item 47 = .ok (.getfield 277, 3) := by decide +kernel
theorem dX8_item_50 : decode cX8_item 50 = .ok (.iload_n 2, 1) := by decide +kernel
theorem dX8_item_51 : decode cX8_item 51 = .ok (.aload 5, 2) := by decide +kernel
theorem dX8_item_53 : decode cX8_item 53 = .ok (.lload_n 3, 1) := by decide +kernel
theorem dX8_item_54 : decode cX8_item 54 = .ok (.invokevirtual 308, 3) := by decide +kernel
theorem dX8_item_57 : decode cX8_item 57 = .ok (.lastore, 1) := by decide +kernel
theorem dX8_item_58 : decode cX8_item 58 = .ok (.iconst 1, 1) := by decide +kernel
theorem dX8_item_59 : decode cX8_item 59 = .ok (.ireturn, 1) := by decide +kernel
theorem dX8_read_0 : decode cX8_read 0 = .ok (.iload_n 1, 1) := by decide +kernel
theorem dX8_read_1 : decode cX8_read 1 = .ok (.bipush 6, 2) := by decide +kernel
theorem dX8_read_3 : decode cX8_read 3 = .ok (.invokestatic 69, 3) := by decide +kernel
theorem dX8_read_6 : decode cX8_read 6 = .ok (.ifCond .eq 19, 3) := by decide +kernel
theorem dX8_read_9 : decode cX8_read 9 = .ok (.iload_n 2, 1) := by decide +kernel
theorem dX8_read_10 : decode cX8_read 10 = .ok (.aload_n 0, 1) := by decide +kernel
theorem dX8_read_11 : decode cX8_read 11 = .ok (.getfield 37, 3) := by decide +kernel
theorem dX8_read_14 : decode cX8_read 14 = .ok (.iload_n 1, 1) := by decide +kernel
theorem dX8_read_15 : decode cX8_read 15 = .ok (.aaload, 1) := by decide +kernel
theorem dX8_read_16 : decode cX8_read 16 = .ok (.getfield 271, 3) := by decide +kernel
theorem dX8_read_19 : decode cX8_read 19 = .ok (.invokestatic 69, 3) := by decide +kernel
theorem dX8_read_22 : decode cX8_read 22 = .ok (.ifCond .ne 7, 3) := by decide +kernel
theorem dX8_read_25 : decode cX8_read 25 = .ok (.ldc2_w 250, 3) := by decide +kernel
theorem dX8_read_28 : decode cX8_read 28 = .ok (.lreturn, 1) := by decide +kernel
theorem dX8_read_29 : decode cX8_read 29 = .ok (.aload_n 0, 1) := by decide +kernel
theorem dX8_read_30 : decode cX8_read 30 = .ok (.getfield 37, 3) := by decide +kernel
theorem dX8_read_33 : decode cX8_read 33 = .ok (.iload_n 1, 1) := by decide +kernel
theorem dX8_read_34 : decode cX8_read 34 = .ok (.aaload, 1) := by decide +kernel
theorem dX8_read_35 : decode cX8_read 35 = .ok (.getfield 277, 3) := by decide +kernel
theorem dX8_read_38 : decode cX8_read 38 = .ok (.iload_n 2, 1) := by decide +kernel
theorem dX8_read_39 : decode cX8_read 39 = .ok (.laload, 1) := by decide +kernel
theorem dX8_read_40 : decode cX8_read 40 = .ok (.lreturn, 1) := by decide +kernel
theorem dX8_shift_0 : decode cX8_shift 0 = .ok (.iload_n 1, 1) := by decide +kernel
theorem dX8_shift_1 : decode cX8_shift 1 = .ok (.bipush 6, 2) := by decide +kernel
theorem dX8_shift_3 : decode cX8_shift 3 = .ok (.invokestatic 69, 3) := by decide +kernel
theorem dX8_shift_6 : decode cX8_shift 6 = .ok (.ifCond .eq 12, 3) := by decide +kernel
theorem dX8_shift_9 : decode cX8_shift 9 = .ok (.iload_n 3, 1) := by decide +kernel
theorem dX8_shift_10 : decode cX8_shift 10 = .ok (.bipush 6, 2) := by decide +kernel
theorem dX8_shift_12 : decode cX8_shift 12 = .ok (.invokestatic 69, 3) := by decide +kernel
theorem dX8_shift_15 : decode cX8_shift 15 = .ok (.ifCond .ne 5, 3) := by decide +kernel
theorem dX8_shift_18 : decode cX8_shift 18 = .ok (.iconst (-1), 1) := by decide +kernel
theorem dX8_shift_19 : decode cX8_shift 19 = .ok (.ireturn, 1) := by decide +kernel
theorem dX8_shift_20 : decode cX8_shift 20 = .ok (.aload_n 0, 1) := by decide +kernel
theorem dX8_shift_21 : decode cX8_shift 21 = .ok (.getfield 37, 3) := by decide +kernel
theorem dX8_shift_24 : decode cX8_shift 24 = .ok (.iload_n 1, 1) := by decide +kernel
theorem dX8_shift_25 : decode cX8_shift 25 = .ok (.aaload, 1) := by decide +kernel
theorem dX8_shift_26 : decode cX8_shift 26 = .ok (.astore 6, 2) := by decide +kernel
theorem dX8_shift_28 : decode cX8_shift 28 = .ok (.aload_n 0, 1) := by decide +kernel
theorem dX8_shift_29 : decode cX8_shift 29 = .ok (.getfield 37, 3) := by decide +kernel
theorem dX8_shift_32 : decode cX8_shift 32 = .ok (.iload_n 3, 1) := by decide +kernel
theorem dX8_shift_33 : decode cX8_shift 33 = .ok (.aaload, 1) := by decide +kernel
theorem dX8_shift_34 : decode cX8_shift 34 = .ok (.astore 7, 2) := by decide +kernel
theorem dX8_shift_36 : decode cX8_shift 36 = .ok (.aload 6, 2) := by decide +kernel
theorem dX8_shift_38 : decode cX8_shift 38 = .ok (.invokevirtual 265, 3) := by decide +kernel
theorem dX8_shift_41 : decode cX8_shift 41 = .ok (.ifCond .ne 11, 3) := by decide +kernel
theorem dX8_shift_44 : decode cX8_shift 44 = .ok (.aload 7, 2) := by decide +kernel
theorem dX8_shift_46 : decode cX8_shift 46 = .ok (.invokevirtual 265, 3) := by decide +kernel
theorem dX8_shift_49 : decode cX8_shift 49 = .ok (.ifCond .eq 6, 3) := by decide +kernel
theorem dX8_shift_52 : decode cX8_shift 52 = .ok (.bipush (-11), 2) := by decide +kernel
theorem dX8_shift_54 : decode cX8_shift 54 = .ok (.ireturn, 1) := by decide +kernel
theorem dX8_shift_55 : decode cX8_shift 55 = .ok (.aload 6, 2) := by decide +kernel
theorem dX8_shift_57 : decode cX8_shift 57 = .ok (.getfield 268, 3) := by decide +kernel
theorem dX8_shift_60 : decode cX8_shift 60 = .ok (.aload 7, 2) := by decide +kernel
theorem dX8_shift_62 : decode cX8_shift 62 = .ok (.getfield 268, 3) := by decide +kernel
theorem dX8_shift_65 : decode cX8_shift 65 = .ok (.if_icmp .eq 6, 3) := by decide +kernel
theorem dX8_shift_68 : decode cX8_shift 68 = .ok (.bipush (-12), 2) := by decide +kernel
theorem dX8_shift_70 : decode cX8_shift 70 = .ok (.ireturn, 1) := by decide +kernel
theorem dX8_shift_71 : decode cX8_shift 71 = .ok (.iload 5, 2) := by decide +kernel
theorem dX8_shift_73 : decode cX8_shift 73 = .ok (.ifCond .lt 57, 3) := by decide +kernel
theorem dX8_shift_76 : decode cX8_shift 76 = .ok (.iload_n 2, 1) := by decide +kernel
theorem dX8_shift_77 : decode cX8_shift 77 = .ok (.ifCond .lt 53, 3) := by decide +kernel
theorem dX8_shift_80 : decode cX8_shift 80 = .ok (.iload 4, 2) := by decide +kernel
theorem dX8_shift_82 : decode cX8_shift 82 = .ok (.ifCond .lt 48, 3) := by decide +kernel
theorem dX8_shift_85 : decode cX8_shift 85 = .ok (.iload 5, 2) := by decide +kernel
theorem dX8_shift_87 : decode cX8_shift 87 = .ok (.aload 6, 2) := by decide +kernel
theorem dX8_shift_89 : decode cX8_shift 89 = .ok (.getfield 271, 3) := by decide +kernel
theorem dX8_shift_92 : decode cX8_shift 92 = .ok (.if_icmp .gt 38, 3) := by decide +kernel
theorem dX8_shift_95 : decode cX8_shift 95 = .ok (.iload_n 2, 1) := by decide +kernel
theorem dX8_shift_96 : decode cX8_shift 96 = .ok (.aload 6, 2) := by decide +kernel
theorem dX8_shift_98 : decode cX8_shift 98 = .ok (.getfield 271, 3) := by decide +kernel
theorem dX8_shift_101 : decode cX8_shift 101 = .ok (.iload 5, 2) := by decide +kernel
theorem dX8_shift_103 : decode cX8_shift 103 = .ok (.isub, 1) := by decide +kernel
theorem dX8_shift_104 : decode cX8_shift 104 = .ok (.if_icmp .gt 26, 3) := by decide +kernel
theorem dX8_shift_107 : decode cX8_shift 107 = .ok (.iload 5, 2) := by decide +kernel
theorem dX8_shift_109 : decode cX8_shift 109 = .ok (.aload 7, 2) := by decide +kernel
theorem dX8_shift_111 : decode cX8_shift 111 = .ok (.getfield 271, 3) := by decide +kernel
theorem dX8_shift_114 : decode cX8_shift 114 = .ok (.if_icmp .gt 16, 3) := by decide +kernel
theorem dX8_shift_117 : decode cX8_shift 117 = .ok (.iload 4, 2) := by decide +kernel
theorem dX8_shift_119 : decode cX8_shift 119 = .ok (.aload 7, 2) := by decide +kernel
theorem dX8_shift_121 : decode cX8_shift 121 = .ok (.getfield 271, 3) := by decide +kernel
theorem dX8_shift_124 : decode cX8_shift 124 = .ok (.iload 5, 2) := by decide +kernel
theorem dX8_shift_126 : decode cX8_shift 126 = .ok (.isub, 1) := by decide +kernel
theorem dX8_shift_127 : decode cX8_shift 127 = .ok (.if_icmp .le 6, 3) := by decide +kernel
theorem dX8_shift_130 : decode cX8_shift 130 = .ok (.bipush (-13), 2) := by decide +kernel
theorem dX8_shift_132 : decode cX8_shift 132 = .ok (.ireturn, 1) := by decide +kernel
theorem dX8_shift_133 : decode cX8_shift 133 = .ok (.aload 6, 2) := by decide +kernel
theorem dX8_shift_135 : decode cX8_shift 135 = .ok (.getfield 277, 3) := by decide +kernel
theorem dX8_shift_138 : decode cX8_shift 138 = .ok (.iload_n 2, 1) := by decide +kernel
theorem dX8_shift_139 : decode cX8_shift 139 = .ok (.aload 7, 2) := by decide +kernel
theorem dX8_shift_141 : decode cX8_shift 141 = .ok (.getfield 277, 3) := by decide +kernel
theorem dX8_shift_144 : decode cX8_shift 144 = .ok (.iload 4, 2) := by decide +kernel
theorem dX8_shift_146 : decode cX8_shift 146 = .ok (.iload 5, 2) := by decide +kernel
theorem dX8_shift_148 : decode cX8_shift 148 = .ok (.invokestatic 312, 3) := by decide +kernel
theorem dX8_shift_151 : decode cX8_shift 151 = .ok (.iload 5, 2) := by decide +kernel
theorem dX8_shift_153 : decode cX8_shift 153 = .ok (.ireturn, 1) := by decide +kernel
theorem dX8_isBelow_0 : decode cX8_isBelow 0 = .ok (.iload_n 0, 1) := by decide +kernel
theorem dX8_isBelow_1 : decode cX8_isBelow 1 = .ok (.ifCond .lt 12, 3) := by decide +kernel
theorem dX8_isBelow_4 : decode cX8_isBelow 4 = .ok (.iload_n 0, 1) := by decide +kernel
theorem dX8_isBelow_5 : decode cX8_isBelow 5 = .ok (.iload_n 1, 1) := by decide +kernel
theorem dX8_isBelow_6 : decode cX8_isBelow 6 = .ok (.if_icmp .ge 7, 3) := by decide +kernel
theorem dX8_isBelow_9 : decode cX8_isBelow 9 = .ok (.iconst 1, 1) := by decide +kernel
theorem dX8_isBelow_10 : decode cX8_isBelow 10 = .ok (.goto 4, 3) := by decide +kernel
theorem dX8_isBelow_13 : decode cX8_isBelow 13 = .ok (.iconst 0, 1) := by decide +kernel
theorem dX8_isBelow_14 : decode cX8_isBelow 14 = .ok (.ireturn, 1) := by decide +kernel
theorem dX8_isUpTo_0 : decode cX8_isUpTo 0 = .ok (.iload_n 0, 1) := by decide +kernel
theorem dX8_isUpTo_1 : decode cX8_isUpTo 1 = .ok (.ifCond .lt 12, 3) := by decide +kernel
theorem dX8_isUpTo_4 : decode cX8_isUpTo 4 = .ok (.iload_n 0, 1) := by decide +kernel
theorem dX8_isUpTo_5 : decode cX8_isUpTo 5 = .ok (.iload_n 1, 1) := by decide +kernel
theorem dX8_isUpTo_6 : decode cX8_isUpTo 6 = .ok (.if_icmp .gt 7, 3) := by decide +kernel
theorem dX8_isUpTo_9 : decode cX8_isUpTo 9 = .ok (.iconst 1, 1) := by decide +kernel
theorem dX8_isUpTo_10 : decode cX8_isUpTo 10 = .ok (.goto 4, 3) := by decide +kernel
theorem dX8_isUpTo_13 : decode cX8_isUpTo 13 = .ok (.iconst 0, 1) := by decide +kernel
theorem dX8_isUpTo_14 : decode cX8_isUpTo 14 = .ok (.ireturn, 1) := by decide +kernel
theorem dX8_rowOf_0 : decode cX8_rowOf 0 = .ok (.iload_n 0, 1) := by decide +kernel
theorem dX8_rowOf_1 : decode cX8_rowOf 1 = .ok (.iconst 4, 1) := by decide +kernel
theorem dX8_rowOf_2 : decode cX8_rowOf 2 = .ok (.idiv, 1) := by decide +kernel
theorem dX8_rowOf_3 : decode cX8_rowOf 3 = .ok (.ireturn, 1) := by decide +kernel
theorem dX8_around_0 : decode cX8_around 0 = .ok (.iload_n 0, 1) := by decide +kernel
theorem dX8_around_1 : decode cX8_around 1 = .ok (.iconst 4, 1) := by decide +kernel
theorem dX8_around_2 : decode cX8_around 2 = .ok (.ishl, 1) := by decide +kernel
theorem dX8_around_3 : decode cX8_around 3 = .ok (.iload_n 0, 1) := by decide +kernel
theorem dX8_around_4 : decode cX8_around 4 = .ok (.iconst 4, 1) := by decide +kernel
theorem dX8_around_5 : decode cX8_around 5 = .ok (.iushr, 1) := by decide +kernel
theorem dX8_around_6 : decode cX8_around 6 = .ok (.ior, 1) := by decide +kernel
theorem dX8_around_7 : decode cX8_around 7 = .ok (.iload_n 0, 1) := by decide +kernel
theorem dX8_around_8 : decode cX8_around 8 = .ok (.ldc_w 318, 3) := by decide +kernel
theorem dX8_around_11 : decode cX8_around 11 = .ok (.iand, 1) := by decide +kernel
theorem dX8_around_12 : decode cX8_around 12 = .ok (.iconst 1, 1) := by decide +kernel
theorem dX8_around_13 : decode cX8_around 13 = .ok (.ishl, 1) := by decide +kernel
theorem dX8_around_14 : decode cX8_around 14 = .ok (.ior, 1) := by decide +kernel
theorem dX8_around_15 : decode cX8_around 15 = .ok (.iload_n 0, 1) := by decide +kernel
theorem dX8_around_16 : decode cX8_around 16 = .ok (.sipush (-4370), 3) := by decide +kernel
theorem dX8_around_19 : decode cX8_around 19 = .ok (.iand, 1) := by decide +kernel
theorem dX8_around_20 : decode cX8_around 20 = .ok (.iconst 1, 1) := by decide +kernel
theorem dX8_around_21 : decode cX8_around 21 = .ok (.iushr, 1) := by decide +kernel
theorem dX8_around_22 : decode cX8_around 22 = .ok (.ior, 1) := by decide +kernel
theorem dX8_around_23 : decode cX8_around 23 = .ok (.istore_n 2, 1) := by decide +kernel
theorem dX8_around_24 : decode cX8_around 24 = .ok (.iload_n 1, 1) := by decide +kernel
theorem dX8_around_25 : decode cX8_around 25 = .ok (.ifCond .eq 31, 3) := by decide +kernel
theorem dX8_around_28 : decode cX8_around 28 = .ok (.iload_n 2, 1) := by decide +kernel
theorem dX8_around_29 : decode cX8_around 29 = .ok (.iload_n 0, 1) := by decide +kernel
theorem dX8_around_30 : decode cX8_around 30 = .ok (.bipush 8, 2) := by decide +kernel
theorem dX8_around_32 : decode cX8_around 32 = .ok (.ishl, 1) := by decide +kernel
theorem dX8_around_33 : decode cX8_around 33 = .ok (.iload_n 0, 1) := by decide +kernel
theorem dX8_around_34 : decode cX8_around 34 = .ok (.bipush 8, 2) := by decide +kernel
theorem dX8_around_36 : decode cX8_around 36 = .ok (.iushr, 1) := by decide +kernel
theorem dX8_around_37 : decode cX8_around 37 = .ok (.ior, 1) := by decide +kernel
theorem dX8_around_38 : decode cX8_around 38 = .ok (.iload_n 0, 1) := by decide +kernel
theorem dX8_around_39 : decode cX8_around 39 = .ok (.sipush 13107, 3) := by decide +kernel
theorem dX8_around_42 : decode cX8_around 42 = .ok (.iand, 1) := by decide +kernel
theorem dX8_around_43 : decode cX8_around 43 = .ok (.iconst 2, 1) := by decide +kernel
theorem dX8_around_44 : decode cX8_around 44 = .ok (.ishl, 1) := by decide +kernel
theorem dX8_around_45 : decode cX8_around 45 = .ok (.ior, 1) := by decide +kernel
theorem dX8_around_46 : decode cX8_around 46 = .ok (.iload_n 0, 1) := by decide +kernel
theorem dX8_around_47 : decode cX8_around 47 = .ok (.ldc_w 319, 3) := by decide +kernel
theorem dX8_around_50 : decode cX8_around 50 = .ok (.iand, 1) := by decide +kernel
theorem dX8_around_51 : decode cX8_around 51 = .ok (.iconst 2, 1) := by decide +kernel
theorem dX8_around_52 : decode cX8_around 52 = .ok (.iushr, 1) := by decide +kernel
theorem dX8_around_53 : decode cX8_around 53 = .ok (.ior, 1) := by decide +kernel
theorem dX8_around_54 : decode cX8_around 54 = .ok (.ior, 1) := by decide +kernel
theorem dX8_around_55 : decode cX8_around 55 = .ok (.istore_n 2, 1) := by decide +kernel
theorem dX8_around_56 : decode cX8_around 56 = .ok (.iload_n 2, 1) := by decide +kernel
theorem dX8_around_57 : decode cX8_around 57 = .ok (.ldc 220, 2) := by decide +kernel
theorem dX8_around_59 : decode cX8_around 59 = .ok (.iand, 1) := by decide +kernel
theorem dX8_around_60 : decode cX8_around 60 = .ok (.ireturn, 1) := by decide +kernel
theorem dX8_fewest_0 : decode cX8_fewest 0 = .ok (.iload_n 0, 1) := by decide +kernel
theorem dX8_fewest_1 : decode cX8_fewest 1 = .ok (.iload_n 2, 1) := by decide +kernel
theorem dX8_fewest_2 : decode cX8_fewest 2 = .ok (.iand, 1) := by decide +kernel
theorem dX8_fewest_3 : decode cX8_fewest 3 = .ok (.istore 4, 2) := by decide +kernel
theorem dX8_fewest_5 : decode cX8_fewest 5 = .ok (.iload 4, 2) := by decide +kernel
theorem dX8_fewest_7 : decode cX8_fewest 7 = .ok (.istore 5, 2) := by decide +kernel
theorem dX8_fewest_9 : decode cX8_fewest 9 = .ok (.iconst 0, 1) := by decide +kernel
theorem dX8_fewest_10 : decode cX8_fewest 10 = .ok (.istore 6, 2) := by decide +kernel
theorem dX8_fewest_12 : decode cX8_fewest 12 = .ok (.iload 6, 2) := by decide +kernel
theorem dX8_fewest_14 : decode cX8_fewest 14 = .ok (.bipush 16, 2) := by decide +kernel
theorem dX8_fewest_16 : decode cX8_fewest 16 = .ok (.if_icmp .ge 46, 3) := by decide +kernel
theorem dX8_fewest_19 : decode cX8_fewest 19 = .ok (.iload 5, 2) := by decide +kernel
theorem dX8_fewest_21 : decode cX8_fewest 21 = .ok (.ifCond .eq 41, 3) := by decide +kernel
theorem dX8_fewest_24 : decode cX8_fewest 24 = .ok (.iload 5, 2) := by decide +kernel
theorem dX8_fewest_26 : decode cX8_fewest 26 = .ok (.iload_n 1, 1) := by decide +kernel
theorem dX8_fewest_27 : decode cX8_fewest 27 = .ok (.iand, 1) := by decide +kernel
theorem dX8_fewest_28 : decode cX8_fewest 28 = .ok (.ifCond .eq 6, 3) := by decide +kernel
theorem dX8_fewest_31 : decode cX8_fewest 31 = .ok (.iload 6, 2) := by decide +kernel
theorem dX8_fewest_33 : decode cX8_fewest 33 = .ok (.ireturn, 1) := by decide +kernel
theorem dX8_fewest_34 : decode cX8_fewest 34 = .ok (.iload 5, 2) := by decide +kernel
theorem dX8_fewest_36 : decode cX8_fewest 36 = .ok (.iload_n 3, 1) := by decide +kernel
theorem dX8_fewest_37 : decode cX8_fewest 37 = .ok (.invokestatic 138, 3) := by decide +kernel
theorem dX8_fewest_40 : decode cX8_fewest 40 = .ok (.iload_n 2, 1) := by decide +kernel
theorem dX8_fewest_41 : decode cX8_fewest 41 = .ok (.iand, 1) := by decide +kernel
theorem dX8_fewest_42 : decode cX8_fewest 42 = .ok (.iload 4, 2) := by decide +kernel
theorem dX8_fewest_44 : decode cX8_fewest 44 = .ok (.iconst (-1), 1) := by decide +kernel
theorem dX8_fewest_45 : decode cX8_fewest 45 = .ok (.ixor, 1) := by decide +kernel
theorem dX8_fewest_46 : decode cX8_fewest 46 = .ok (.iand, 1) := by decide +kernel
theorem dX8_fewest_47 : decode cX8_fewest 47 = .ok (.istore 5, 2) := by decide +kernel
theorem dX8_fewest_49 : decode cX8_fewest 49 = .ok (.iload 4, 2) := by decide +kernel
theorem dX8_fewest_51 : decode cX8_fewest 51 = .ok (.iload 5, 2) := by decide +kernel
theorem dX8_fewest_53 : decode cX8_fewest 53 = .ok (.ior, 1) := by decide +kernel
theorem dX8_fewest_54 : decode cX8_fewest 54 = .ok (.istore 4, 2) := by decide +kernel
theorem dX8_fewest_56 : decode cX8_fewest 56 = .ok (.iinc 6 1, 3) := by decide +kernel
theorem dX8_fewest_59 : decode cX8_fewest 59 = .ok (.goto (-47), 3) := by decide +kernel
theorem dX8_fewest_62 : decode cX8_fewest 62 = .ok (.bipush (-5), 2) := by decide +kernel
theorem dX8_fewest_64 : decode cX8_fewest 64 = .ok (.ireturn, 1) := by decide +kernel
theorem dX8_firstAt_0 : decode cX8_firstAt 0 = .ok (.iconst 0, 1) := by decide +kernel
theorem dX8_firstAt_1 : decode cX8_firstAt 1 = .ok (.istore 4, 2) := by decide +kernel
theorem dX8_firstAt_3 : decode cX8_firstAt 3 = .ok (.iload 4, 2) := by decide +kernel
theorem dX8_firstAt_5 : decode cX8_firstAt 5 = .ok (.bipush 16, 2) := by decide +kernel
theorem dX8_firstAt_7 : decode cX8_firstAt 7 = .ok (.if_icmp .ge 36, 3) := by decide +kernel
theorem dX8_firstAt_10 : decode cX8_firstAt 10 = .ok (.iload_n 0, 1) := by decide +kernel
theorem dX8_firstAt_11 : decode cX8_firstAt 11 = .ok (.iconst 1, 1) := by decide +kernel
theorem dX8_firstAt_12 : decode cX8_firstAt 12 = .ok (.iload 4, 2) := by decide +kernel
theorem dX8_firstAt_14 : decode cX8_firstAt 14 = .ok (.ishl, 1) := by decide +kernel
theorem dX8_firstAt_15 : decode cX8_firstAt 15 = .ok (.iand, 1) := by decide +kernel
theorem dX8_firstAt_16 : decode cX8_firstAt 16 = .ok (.ifCond .eq 21, 3) := by decide +kernel
theorem dX8_firstAt_19 : decode cX8_firstAt 19 = .ok (.iconst 1, 1) := by decide +kernel
theorem dX8_firstAt_20 : decode cX8_firstAt 20 = .ok (.iload 4, 2) := by decide +kernel
theorem dX8_firstAt_22 : decode cX8_firstAt 22 = .ok (.ishl, 1) := by decide +kernel
theorem dX8_firstAt_23 : decode cX8_firstAt 23 = .ok (.ldc 196, 2) := by decide +kernel
theorem dX8_firstAt_25 : decode cX8_firstAt 25 = .ok (.iload_n 2, 1) := by decide +kernel
theorem dX8_firstAt_26 : decode cX8_firstAt 26 = .ok (.iload_n 3, 1) := by decide +kernel
theorem dX8_firstAt_27 : decode cX8_firstAt 27 = .ok (.invokestatic 201, 3) := by decide +kernel
theorem dX8_firstAt_30 : decode cX8_firstAt 30 = .ok (.iload_n 1, 1) := by decide +kernel
theorem dX8_firstAt_31 : decode cX8_firstAt 31 = .ok (.if_icmp .ne 6, 3) := by decide +kernel
theorem dX8_firstAt_34 : decode cX8_firstAt 34 = .ok (.iload 4, 2) := by decide +kernel
theorem dX8_firstAt_36 : decode cX8_firstAt 36 = .ok (.ireturn, 1) := by decide +kernel
theorem dX8_firstAt_37 : decode cX8_firstAt 37 = .ok (.iinc 4 1, 3) := by decide +kernel
theorem dX8_firstAt_40 : decode cX8_firstAt 40 = .ok (.goto (-37), 3) := by decide +kernel
theorem dX8_firstAt_43 : decode cX8_firstAt 43 = .ok (.bipush (-5), 2) := by decide +kernel
theorem dX8_firstAt_45 : decode cX8_firstAt 45 = .ok (.ireturn, 1) := by decide +kernel
theorem dX8_leastCut_0 : decode cX8_leastCut 0 = .ok (.sipush 4369, 3) := by decide +kernel
theorem dX8_leastCut_3 : decode cX8_leastCut 3 = .ok (.ldc 196, 2) := by decide +kernel
theorem dX8_leastCut_5 : decode cX8_leastCut 5 = .ok (.iload_n 0, 1) := by decide +kernel
theorem dX8_leastCut_6 : decode cX8_leastCut 6 = .ok (.iload_n 1, 1) := by decide +kernel
theorem dX8_leastCut_7 : decode cX8_leastCut 7 = .ok (.invokestatic 201, 3) := by decide +kernel
theorem dX8_leastCut_10 : decode cX8_leastCut 10 = .ok (.ifCond .ge 5, 3) := by decide +kernel
theorem dX8_leastCut_13 : decode cX8_leastCut 13 = .ok (.iconst 0, 1) := by decide +kernel
theorem dX8_leastCut_14 : decode cX8_leastCut 14 = .ok (.ireturn, 1) := by decide +kernel
theorem dX8_leastCut_15 : decode cX8_leastCut 15 = .ok (.bipush (-5), 2) := by decide +kernel
theorem dX8_leastCut_17 : decode cX8_leastCut 17 = .ok (.istore_n 2, 1) := by decide +kernel
theorem dX8_leastCut_18 : decode cX8_leastCut 18 = .ok (.iconst 0, 1) := by decide +kernel
theorem dX8_leastCut_19 : decode cX8_leastCut 19 = .ok (.istore_n 3, 1) := by decide +kernel
theorem dX8_leastCut_20 : decode cX8_leastCut 20 = .ok (.iload_n 3, 1) := by decide +kernel
theorem dX8_leastCut_21 : decode cX8_leastCut 21 = .ok (.bipush 16, 2) := by decide +kernel
theorem dX8_leastCut_23 : decode cX8_leastCut 23 = .ok (.if_icmp .ge 85, 3) := by decide +kernel
theorem dX8_leastCut_26 : decode cX8_leastCut 26 = .ok (.iconst 0, 1) := by decide +kernel
theorem dX8_leastCut_27 : decode cX8_leastCut 27 = .ok (.istore 4, 2) := by decide +kernel
theorem dX8_leastCut_29 : decode cX8_leastCut 29 = .ok (.iload 4, 2) := by decide +kernel
theorem dX8_leastCut_31 : decode cX8_leastCut 31 = .ok (.iload_n 3, 1) := by decide +kernel
theorem dX8_leastCut_32 : decode cX8_leastCut 32 = .ok (.if_icmp .gt 70, 3) := by decide +kernel
theorem dX8_leastCut_35 : decode cX8_leastCut 35 = .ok (.iconst 0, 1) := by decide +kernel
theorem dX8_leastCut_36 : decode cX8_leastCut 36 = .ok (.istore 5, 2) := by decide +kernel
theorem dX8_leastCut_38 : decode cX8_leastCut 38 = .ok (.iload 5, 2) := by decide +kernel
theorem dX8_leastCut_40 : decode cX8_leastCut 40 = .ok (.iload 4, 2) := by decide +kernel
theorem dX8_leastCut_42 : decode cX8_leastCut 42 = .ok (.if_icmp .gt 54, 3) := by decide +kernel
theorem dX8_leastCut_45 : decode cX8_leastCut 45 = .ok (.iconst 1, 1) := by decide +kernel
theorem dX8_leastCut_46 : decode cX8_leastCut 46 = .ok (.iload_n 3, 1) := by decide +kernel
theorem dX8_leastCut_47 : decode cX8_leastCut 47 = .ok (.ishl, 1) := by decide +kernel
theorem dX8_leastCut_48 : decode cX8_leastCut 48 = .ok (.iconst 1, 1) := by decide +kernel
theorem dX8_leastCut_49 : decode cX8_leastCut 49 = .ok (.iload 4, 2) := by decide +kernel
theorem dX8_leastCut_51 : decode cX8_leastCut 51 = .ok (.ishl, 1) := by decide +kernel
theorem dX8_leastCut_52 : decode cX8_leastCut 52 = .ok (.ior, 1) := by decide +kernel
theorem dX8_leastCut_53 : decode cX8_leastCut 53 = .ok (.iconst 1, 1) := by decide +kernel
theorem dX8_leastCut_54 : decode cX8_leastCut 54 = .ok (.iload 5, 2) := by decide +kernel
theorem dX8_leastCut_56 : decode cX8_leastCut 56 = .ok (.ishl, 1) := by decide +kernel
theorem dX8_leastCut_57 : decode cX8_leastCut 57 = .ok (.ior, 1) := by decide +kernel
theorem dX8_leastCut_58 : decode cX8_leastCut 58 = .ok (.istore 6, 2) := by decide +kernel
theorem dX8_leastCut_60 : decode cX8_leastCut 60 = .ok (.iload 6, 2) := by decide +kernel
theorem dX8_leastCut_62 : decode cX8_leastCut 62 = .ok (.iload_n 2, 1) := by decide +kernel
theorem dX8_leastCut_63 : decode cX8_leastCut 63 = .ok (.invokestatic 320, 3) := by decide +kernel
theorem dX8_leastCut_66 : decode cX8_leastCut 66 = .ok (.ifCond .eq 24, 3) := by decide +kernel
theorem dX8_leastCut_69 : decode cX8_leastCut 69 = .ok (.sipush 4369, 3) := by decide +kernel
theorem dX8_leastCut_72 : decode cX8_leastCut 72 = .ok (.ldc 196, 2) := by decide +kernel
theorem dX8_leastCut_74 : decode cX8_leastCut 74 = .ok (.iload_n 0, 1) := by decide +kernel
theorem dX8_leastCut_75 : decode cX8_leastCut 75 = .ok (.iload 6, 2) := by decide +kernel
theorem dX8_leastCut_77 : decode cX8_leastCut 77 = .ok (.iconst (-1), 1) := by decide +kernel
theorem dX8_leastCut_78 : decode cX8_leastCut 78 = .ok (.ixor, 1) := by decide +kernel
theorem dX8_leastCut_79 : decode cX8_leastCut 79 = .ok (.iand, 1) := by decide +kernel
theorem dX8_leastCut_80 : decode cX8_leastCut 80 = .ok (.iload_n 1, 1) := by decide +kernel
theorem dX8_leastCut_81 : decode cX8_leastCut 81 = .ok (.invokestatic 201, 3) := by decide +kernel
theorem dX8_leastCut_84 : decode cX8_leastCut 84 = .ok (.ifCond .ge 6, 3) := by decide +kernel
theorem dX8_leastCut_87 : decode cX8_leastCut 87 = .ok (.iload 6, 2) := by decide +kernel
theorem dX8_leastCut_89 : decode cX8_leastCut 89 = .ok (.istore_n 2, 1) := by decide +kernel
theorem dX8_leastCut_90 : decode cX8_leastCut 90 = .ok (.iinc 5 1, 3) := by decide +kernel
theorem dX8_leastCut_93 : decode cX8_leastCut 93 = .ok (.goto (-55), 3) := by decide +kernel
theorem dX8_leastCut_96 : decode cX8_leastCut 96 = .ok (.iinc 4 1, 3) := by decide +kernel
theorem dX8_leastCut_99 : decode cX8_leastCut 99 = .ok (.goto (-70), 3) := by decide +kernel
theorem dX8_leastCut_102 : decode cX8_leastCut 102 = .ok (.iinc 3 1, 3) := by decide +kernel
theorem dX8_leastCut_105 : decode cX8_leastCut 105 = .ok (.goto (-85), 3) := by decide +kernel
theorem dX8_leastCut_108 : decode cX8_leastCut 108 = .ok (.iload_n 2, 1) := by decide +kernel
theorem dX8_leastCut_109 : decode cX8_leastCut 109 = .ok (.ireturn, 1) := by decide +kernel
theorem dX8_isLess_0 : decode cX8_isLess 0 = .ok (.iload_n 1, 1) := by decide +kernel
theorem dX8_isLess_1 : decode cX8_isLess 1 = .ok (.ifCond .ge 5, 3) := by decide +kernel
theorem dX8_isLess_4 : decode cX8_isLess 4 = .ok (.iconst 1, 1) := by decide +kernel
theorem dX8_isLess_5 : decode cX8_isLess 5 = .ok (.ireturn, 1) := by decide +kernel
theorem dX8_isLess_6 : decode cX8_isLess 6 = .ok (.iload_n 0, 1) := by decide +kernel
theorem dX8_isLess_7 : decode cX8_isLess 7 = .ok (.invokestatic 215, 3) := by decide +kernel
theorem dX8_isLess_10 : decode cX8_isLess 10 = .ok (.iload_n 1, 1) := by decide +kernel
theorem dX8_isLess_11 : decode cX8_isLess 11 = .ok (.invokestatic 215, 3) := by decide +kernel
theorem dX8_isLess_14 : decode cX8_isLess 14 = .ok (.isub, 1) := by decide +kernel
theorem dX8_isLess_15 : decode cX8_isLess 15 = .ok (.istore_n 2, 1) := by decide +kernel
theorem dX8_isLess_16 : decode cX8_isLess 16 = .ok (.iload_n 2, 1) := by decide +kernel
theorem dX8_isLess_17 : decode cX8_isLess 17 = .ok (.ifCond .lt 12, 3) := by decide +kernel
theorem dX8_isLess_20 : decode cX8_isLess 20 = .ok (.iload_n 2, 1) := by decide +kernel
theorem dX8_isLess_21 : decode cX8_isLess 21 = .ok (.ifCond .ne 12, 3) := by decide +kernel
theorem dX8_isLess_24 : decode cX8_isLess 24 = .ok (.iload_n 0, 1) := by decide +kernel
theorem dX8_isLess_25 : decode cX8_isLess 25 = .ok (.iload_n 1, 1) := by decide +kernel
theorem dX8_isLess_26 : decode cX8_isLess 26 = .ok (.if_icmp .ge 7, 3) := by decide +kernel
theorem dX8_isLess_29 : decode cX8_isLess 29 = .ok (.iconst 1, 1) := by decide +kernel
theorem dX8_isLess_30 : decode cX8_isLess 30 = .ok (.goto 4, 3) := by decide +kernel
theorem dX8_isLess_33 : decode cX8_isLess 33 = .ok (.iconst 0, 1) := by decide +kernel
theorem dX8_isLess_34 : decode cX8_isLess 34 = .ok (.ireturn, 1) := by decide +kernel
theorem dX8_partOfSixteenths_0 : decode cX8_partOfSixteenths 0 = .ok (.bipush 16, 2) := by decide +kernel
theorem dX8_partOfSixteenths_2 : decode cX8_partOfSixteenths 2 = .ok (.istore_n 2, 1) := by decide +kernel
theorem dX8_partOfSixteenths_3 : decode cX8_partOfSixteenths 3 = .ok (.iconst 0, 1) := by decide +kernel
theorem dX8_partOfSixteenths_4 : decode cX8_partOfSixteenths 4 = .ok (.istore_n 3, 1) := by decide +kernel
theorem dX8_partOfSixteenths_5 : decode cX8_partOfSixteenths 5 = .ok (.iload_n 3, 1) := by decide +kernel
theorem dX8_partOfSixteenths_6 : decode cX8_partOfSixteenths 6 = .ok (.iconst 4, 1) := by decide +kernel
theorem dX8_partOfSixteenths_7 : decode cX8_partOfSixteenths 7 = .ok (.if_icmp .ge 28, 3) := by decide +kernel
theorem dX8_partOfSixteenths_10 : decode cX8_partOfSixteenths 10 = .ok (.iload_n 0, 1) := by decide +kernel
theorem dX8_partOfSixteenths_11 : decode cX8_partOfSixteenths 11 = .ok (.iconst 2, 1) := by decide +kernel
theorem dX8_partOfSixteenths_12 : decode cX8_partOfSixteenths 12 = .ok (.irem, 1) := by decide +kernel
theorem dX8_partOfSixteenths_13 : decode cX8_partOfSixteenths 13 = .ok (.ifCond .ne 22, 3) := by decide +kernel
theorem dX8_partOfSixteenths_16 : decode cX8_partOfSixteenths 16 = .ok (.iload_n 2, 1) := by decide +kernel
theorem dX8_partOfSixteenths_17 : decode cX8_partOfSixteenths 17 = .ok (.iconst 1, 1) := by decide +kernel
theorem dX8_partOfSixteenths_18 : decode cX8_partOfSixteenths 18 = .ok (.if_icmp .le 17, 3) := by decide +kernel
theorem dX8_partOfSixteenths_21 : decode cX8_partOfSixteenths 21 = .ok (.iload_n 0, 1) := by decide +kernel
theorem dX8_partOfSixteenths_22 : decode cX8_partOfSixteenths 22 = .ok (.iconst 2, 1) := by decide +kernel
theorem dX8_partOfSixteenths_23 : decode cX8_partOfSixteenths 23 = .ok (.idiv, 1) := by decide +kernel
theorem dX8_partOfSixteenths_24 : decode cX8_partOfSixteenths 24 = .ok (.istore_n 0, 1) := by decide +kernel
theorem dX8_partOfSixteenths_25 : decode cX8_partOfSixteenths 25 = .ok (.iload_n 2, 1) := by decide +kernel
theorem dX8_partOfSixteenths_26 : decode cX8_partOfSixteenths 26 = .ok (.iconst 2, 1) := by decide +kernel
theorem dX8_partOfSixteenths_27 : decode cX8_partOfSixteenths 27 = .ok (.idiv, 1) := by decide +kernel
theorem dX8_partOfSixteenths_28 : decode cX8_partOfSixteenths 28 = .ok (.istore_n 2, 1) := by decide +kernel
theorem dX8_partOfSixteenths_29 : decode cX8_partOfSixteenths 29 = .ok (.iinc 3 1, 3) := by decide +kernel
theorem dX8_partOfSixteenths_32 : decode cX8_partOfSixteenths 32 = .ok (.goto (-27), 3) := by decide +kernel
theorem dX8_partOfSixteenths_35 : decode cX8_partOfSixteenths 35 = .ok (.iload_n 1, 1) := by decide +kernel
theorem dX8_partOfSixteenths_36 : decode cX8_partOfSixteenths 36 = .ok (.ifCond .ne 8, 3) := by decide +kernel
theorem dX8_partOfSixteenths_39 : decode cX8_partOfSixteenths 39 = .ok (.iload_n 0, 1) := by decide +kernel
theorem dX8_partOfSixteenths_40 : decode cX8_partOfSixteenths 40 = .ok (.i2l, 1) := by decide +kernel
theorem dX8_partOfSixteenths_41 : decode cX8_partOfSixteenths 41 = .ok (.goto 5, 3) := by decide +kernel
theorem dX8_partOfSixteenths_44 : decode cX8_partOfSixteenths 44 = .ok (.iload_n 2, 1) := by decide +kernel
theorem dX8_partOfSixteenths_45 : decode cX8_partOfSixteenths 45 = .ok (.i2l, 1) := by decide +kernel
theorem dX8_partOfSixteenths_46 : decode cX8_partOfSixteenths 46 = .ok (.lreturn, 1) := by decide +kernel
theorem dX8_askBehind_0 : decode cX8_askBehind 0 = .ok (.aload_n 0, 1) := by decide +kernel
theorem dX8_askBehind_1 : decode cX8_askBehind 1 = .ok (.getfield 44, 3) := by decide +kernel
theorem dX8_askBehind_4 : decode cX8_askBehind 4 = .ok (.aload_n 0, 1) := by decide +kernel
theorem dX8_askBehind_5 : decode cX8_askBehind 5 = .ok (.getfield 12, 3) := by decide +kernel
theorem dX8_askBehind_8 : decode cX8_askBehind 8 = .ok (.getfield 98, 3) := by decide +kernel
theorem dX8_askBehind_11 : decode cX8_askBehind 11 = .ok (.invokevirtual 190, 3) := by decide +kernel
theorem dX8_askBehind_14 : decode cX8_askBehind 14 = .ok (.aload_n 0, 1) := by decide +kernel
theorem dX8_askBehind_15 : decode cX8_askBehind 15 = .ok (.getfield 44, 3) := by decide +kernel
theorem dX8_askBehind_18 : decode cX8_askBehind 18 = .ok (.iload_n 1, 1) := by decide +kernel
theorem dX8_askBehind_19 : decode cX8_askBehind 19 = .ok (.aload_n 0, 1) := by decide +kernel
theorem dX8_askBehind_20 : decode cX8_askBehind 20 = .ok (.getfield 12, 3) := by decide +kernel
theorem dX8_askBehind_23 : decode cX8_askBehind 23 = .ok (.getfield 64, 3) := by decide +kernel
theorem dX8_askBehind_26 : decode cX8_askBehind 26 = .ok (.invokevirtual 182, 3) := by decide +kernel
theorem dX8_askBehind_29 : decode cX8_askBehind 29 = .ok (.return_, 1) := by decide +kernel
theorem dX8_isSeenSo_0 : decode cX8_isSeenSo 0 = .ok (.aload_n 0, 1) := by decide +kernel
theorem dX8_isSeenSo_1 : decode cX8_isSeenSo 1 = .ok (.getfield 12, 3) := by decide +kernel
theorem dX8_isSeenSo_4 : decode cX8_isSeenSo 4 = .ok (.getfield 221, 3) := by decide +kernel
theorem dX8_isSeenSo_7 : decode cX8_isSeenSo 7 = .ok (.getfield 259, 3) := by decide +kernel
theorem dX8_isSeenSo_10 : decode cX8_isSeenSo 10 = .ok (.iload_n 1, 1) := by decide +kernel
theorem dX8_isSeenSo_11 : decode cX8_isSeenSo 11 = .ok (.iaload, 1) := by decide +kernel
theorem dX8_isSeenSo_12 : decode cX8_isSeenSo 12 = .ok (.istore_n 3, 1) := by decide +kernel
theorem dX8_isSeenSo_13 : decode cX8_isSeenSo 13 = .ok (.iload_n 3, 1) := by decide +kernel
theorem dX8_isSeenSo_14 : decode cX8_isSeenSo 14 = .ok (.iload_n 2, 1) := by decide +kernel
theorem dX8_isSeenSo_15 : decode cX8_isSeenSo 15 = .ok (.if_icmp .ne 10, 3) := by decide +kernel
theorem dX8_isSeenSo_18 : decode cX8_isSeenSo 18 = .ok (.aload_n 0, 1) := by decide +kernel
theorem dX8_isSeenSo_19 : decode cX8_isSeenSo 19 = .ok (.getfield 51, 3) := by decide +kernel
theorem dX8_isSeenSo_22 : decode cX8_isSeenSo 22 = .ok (.goto 12, 3) := by decide +kernel
theorem dX8_isSeenSo_25 : decode cX8_isSeenSo 25 = .ok (.aload_n 0, 1) := by decide +kernel
theorem dX8_isSeenSo_26 : decode cX8_isSeenSo 26 = .ok (.getfield 12, 3) := by decide +kernel
theorem dX8_isSeenSo_29 : decode cX8_isSeenSo 29 = .ok (.getfield 77, 3) := by decide +kernel
theorem dX8_isSeenSo_32 : decode cX8_isSeenSo 32 = .ok (.iload_n 3, 1) := by decide +kernel
theorem dX8_isSeenSo_33 : decode cX8_isSeenSo 33 = .ok (.aaload, 1) := by decide +kernel
theorem dX8_isSeenSo_34 : decode cX8_isSeenSo 34 = .ok (.astore 4, 2) := by decide +kernel
theorem dX8_isSeenSo_36 : decode cX8_isSeenSo 36 = .ok (.aload 4, 2) := by decide +kernel
theorem dX8_isSeenSo_38 : decode cX8_isSeenSo 38 = .ok (.aload_n 0, 1) := by decide +kernel
theorem dX8_isSeenSo_39 : decode cX8_isSeenSo 39 = .ok (.getfield 44, 3) := by decide +kernel
theorem dX8_isSeenSo_42 : decode cX8_isSeenSo 42 = .ok (.aload_n 0, 1) := by decide +kernel
theorem dX8_isSeenSo_43 : decode cX8_isSeenSo 43 = .ok (.getfield 12, 3) := by decide +kernel
theorem dX8_isSeenSo_46 : decode cX8_isSeenSo 46 = .ok (.getfield 64, 3) := by decide +kernel
theorem dX8_isSeenSo_49 : decode cX8_isSeenSo 49 = .ok (.getfield 101, 3) := by decide +kernel
theorem dX8_isSeenSo_52 : decode cX8_isSeenSo 52 = .ok (.invokevirtual 104, 3) := by decide +kernel
theorem dX8_isSeenSo_55 : decode cX8_isSeenSo 55 = .ok (.ifCond .lt 7, 3) := by decide +kernel
theorem dX8_isSeenSo_58 : decode cX8_isSeenSo 58 = .ok (.iconst 1, 1) := by decide +kernel
theorem dX8_isSeenSo_59 : decode cX8_isSeenSo 59 = .ok (.goto 4, 3) := by decide +kernel
theorem dX8_isSeenSo_62 : decode cX8_isSeenSo 62 = .ok (.iconst 0, 1) := by decide +kernel
theorem dX8_isSeenSo_63 : decode cX8_isSeenSo 63 = .ok (.istore 5, 2) := by decide +kernel
theorem dX8_isSeenSo_65 : decode cX8_isSeenSo 65 = .ok (.iload 5, 2) := by decide +kernel
theorem dX8_isSeenSo_67 : decode cX8_isSeenSo 67 = .ok (.aload_n 0, 1) := by decide +kernel
theorem dX8_isSeenSo_68 : decode cX8_isSeenSo 68 = .ok (.getfield 12, 3) := by decide +kernel
theorem dX8_isSeenSo_71 : decode cX8_isSeenSo 71 = .ok (.getfield 221, 3) := by decide +kernel
theorem dX8_isSeenSo_74 : decode cX8_isSeenSo 74 = .ok (.getfield 323, 3) := by decide +kernel
theorem dX8_isSeenSo_77 : decode cX8_isSeenSo 77 = .ok (.iload_n 1, 1) := by decide +kernel
theorem dX8_isSeenSo_78 : decode cX8_isSeenSo 78 = .ok (.iaload, 1) := by decide +kernel
theorem dX8_isSeenSo_79 : decode cX8_isSeenSo 79 = .ok (.if_icmp .ne 7, 3) := by decide +kernel
theorem dX8_isSeenSo_82 : decode cX8_isSeenSo 82 = .ok (.iconst 1, 1) := by decide +kernel
theorem dX8_isSeenSo_83 : decode cX8_isSeenSo 83 = .ok (.goto 4, 3) := by decide +kernel
theorem dX8_isSeenSo_86 : decode cX8_isSeenSo 86 = .ok (.iconst 0, 1) := by decide +kernel
theorem dX8_isSeenSo_87 : decode cX8_isSeenSo 87 = .ok (.ireturn, 1) := by decide +kernel
theorem dX8_fitAll_0 : decode cX8_fitAll 0 = .ok (.iconst 0, 1) := by decide +kernel
theorem dX8_fitAll_1 : decode cX8_fitAll 1 = .ok (.istore_n 2, 1) := by decide +kernel
theorem dX8_fitAll_2 : decode cX8_fitAll 2 = .ok (.iload_n 2, 1) := by decide +kernel
theorem dX8_fitAll_3 : decode cX8_fitAll 3 = .ok (.iload_n 1, 1) := by decide +kernel
theorem dX8_fitAll_4 : decode cX8_fitAll 4 = .ok (.if_icmp .ge 16, 3) := by decide +kernel
theorem dX8_fitAll_7 : decode cX8_fitAll 7 = .ok (.aload_n 0, 1) := by decide +kernel
theorem dX8_fitAll_8 : decode cX8_fitAll 8 = .ok (.getfield 55, 3) := by decide +kernel
theorem dX8_fitAll_11 : decode cX8_fitAll 11 = .ok (.iload_n 2, 1) := by decide +kernel
theorem dX8_fitAll_12 : decode cX8_fitAll 12 = .ok (.iconst 1, 1) := by decide +kernel
theorem dX8_fitAll_13 : decode cX8_fitAll 13 = .ok (.bastore, 1) := by decide +kernel
theorem dX8_fitAll_14 : decode cX8_fitAll 14 = .ok (.iinc 2 1, 3) := by decide +kernel
theorem dX8_fitAll_17 : decode cX8_fitAll 17 = .ok (.goto (-15), 3) := by decide +kernel
theorem dX8_fitAll_20 : decode cX8_fitAll 20 = .ok (.return_, 1) := by decide +kernel
theorem dX8_fitting_0 : decode cX8_fitting 0 = .ok (.iconst 0, 1) := by decide +kernel
theorem dX8_fitting_1 : decode cX8_fitting 1 = .ok (.istore_n 3, 1) := by decide +kernel
theorem dX8_fitting_2 : decode cX8_fitting 2 = .ok (.bipush (-5), 2) := by decide +kernel
theorem dX8_fitting_4 : decode cX8_fitting 4 = .ok (.istore 4, 2) := by decide +kernel
theorem dX8_fitting_6 : decode cX8_fitting 6 = .ok (.iload_n 1, 1) := by decide +kernel
theorem dX8_fitting_7 : decode cX8_fitting 7 = .ok (.iconst 1, 1) := by decide +kernel
theorem dX8_fitting_8 : decode cX8_fitting 8 = .ok (.isub, 1) := by decide +kernel
theorem dX8_fitting_9 : decode cX8_fitting 9 = .ok (.istore 5, 2) := by decide +kernel
theorem dX8_fitting_11 : decode cX8_fitting 11 = .ok (.iload 5, 2) := by decide +kernel
theorem dX8_fitting_13 : decode cX8_fitting 13 = .ok (.ifCond .lt 26, 3) := by decide +kernel
theorem dX8_fitting_16 : decode cX8_fitting 16 = .ok (.aload_n 0, 1) := by decide +kernel
theorem dX8_fitting_17 : decode cX8_fitting 17 = .ok (.getfield 55, 3) := by decide +kernel
theorem dX8_fitting_20 : decode cX8_fitting 20 = .ok (.iload 5, 2) := by decide +kernel
theorem dX8_fitting_22 : decode cX8_fitting 22 = .ok (.baload, 1) := by decide +kernel
theorem dX8_fitting_23 : decode cX8_fitting 23 = .ok (.ifCond .eq 10, 3) := by decide +kernel
theorem dX8_fitting_26 : decode cX8_fitting 26 = .ok (.iinc 3 1, 3) := by decide +kernel
theorem dX8_fitting_29 : decode cX8_fitting 29 = .ok (.iload 5, 2) := by decide +kernel
theorem dX8_fitting_31 : decode cX8_fitting 31 = .ok (.istore 4, 2) := by decide +kernel
theorem dX8_fitting_33 : decode cX8_fitting 33 = .ok (.iinc 5 (-1), 3) := by decide +kernel
theorem dX8_fitting_36 : decode cX8_fitting 36 = .ok (.goto (-25), 3) := by decide +kernel
theorem dX8_fitting_39 : decode cX8_fitting 39 = .ok (.iload_n 2, 1) := by decide +kernel
theorem dX8_fitting_40 : decode cX8_fitting 40 = .ok (.ifCond .ne 7, 3) := by decide +kernel
theorem dX8_fitting_43 : decode cX8_fitting 43 = .ok (.iload_n 3, 1) := by decide +kernel
theorem dX8_fitting_44 : decode cX8_fitting 44 = .ok (.goto 5, 3) := by decide +kernel
theorem dX8_fitting_47 : decode cX8_fitting 47 = .ok (.iload 4, 2) := by decide +kernel
theorem dX8_fitting_49 : decode cX8_fitting 49 = .ok (.ireturn, 1) := by decide +kernel
theorem dJ6_compare_7cf53_0 : decode cJ6_compare_7cf53 0 = .ok (.iload_n 0, 1) := by decide +kernel
theorem dJ6_compare_7cf53_1 : decode cJ6_compare_7cf53 1 = .ok (.iload_n 1, 1) := by decide +kernel
theorem dJ6_compare_7cf53_2 : decode cJ6_compare_7cf53 2 = .ok (.if_icmp .ge 7, 3) := by decide +kernel
theorem dJ6_compare_7cf53_5 : decode cJ6_compare_7cf53 5 = .ok (.iconst (-1), 1) := by decide +kernel
theorem dJ6_compare_7cf53_6 : decode cJ6_compare_7cf53 6 = .ok (.goto 13, 3) := by decide +kernel
theorem dJ6_compare_7cf53_9 : decode cJ6_compare_7cf53 9 = .ok (.iload_n 0, 1) := by decide +kernel
theorem dJ6_compare_7cf53_10 : decode cJ6_compare_7cf53 10 = .ok (.iload_n 1, 1) := by decide +kernel
theorem dJ6_compare_7cf53_11 : decode cJ6_compare_7cf53 11 = .ok (.if_icmp .ne 7, 3) := by decide +kernel
theorem dJ6_compare_7cf53_14 : decode cJ6_compare_7cf53 14 = .ok (.iconst 0, 1) := by decide +kernel
theorem dJ6_compare_7cf53_15 : decode cJ6_compare_7cf53 15 = .ok (.goto 4, 3) := by decide +kernel
theorem dJ6_compare_7cf53_18 : decode cJ6_compare_7cf53 18 = .ok (.iconst 1, 1) := by decide +kernel
theorem dJ6_compare_7cf53_19 : decode cJ6_compare_7cf53 19 = .ok (.ireturn, 1) := by decide +kernel
theorem dJ6_bitCount_0f7a4_0 : decode cJ6_bitCount_0f7a4 0 = .ok (.iload_n 0, 1) := by decide +kernel
theorem dJ6_bitCount_0f7a4_1 : decode cJ6_bitCount_0f7a4 1 = .ok (.iload_n 0, 1) := by decide +kernel
theorem dJ6_bitCount_0f7a4_2 : decode cJ6_bitCount_0f7a4 2 = .ok (.iconst 1, 1) := by decide +kernel
theorem dJ6_bitCount_0f7a4_3 : decode cJ6_bitCount_0f7a4 3 = .ok (.iushr, 1) := by decide +kernel
theorem dJ6_bitCount_0f7a4_4 : decode cJ6_bitCount_0f7a4 4 = .ok (.ldc_w 265, 3) := by decide +kernel
theorem dJ6_bitCount_0f7a4_7 : decode cJ6_bitCount_0f7a4 7 = .ok (.iand, 1) := by decide +kernel
theorem dJ6_bitCount_0f7a4_8 : decode cJ6_bitCount_0f7a4 8 = .ok (.isub, 1) := by decide +kernel
theorem dJ6_bitCount_0f7a4_9 : decode cJ6_bitCount_0f7a4 9 = .ok (.istore_n 0, 1) := by decide +kernel
theorem dJ6_bitCount_0f7a4_10 : decode cJ6_bitCount_0f7a4 10 = .ok (.iload_n 0, 1) := by decide +kernel
theorem dJ6_bitCount_0f7a4_11 : decode cJ6_bitCount_0f7a4 11 = .ok (.ldc_w 266, 3) := by decide +kernel
theorem dJ6_bitCount_0f7a4_14 : decode cJ6_bitCount_0f7a4 14 = .ok (.iand, 1) := by decide +kernel
theorem dJ6_bitCount_0f7a4_15 : decode cJ6_bitCount_0f7a4 15 = .ok (.iload_n 0, 1) := by decide +kernel
theorem dJ6_bitCount_0f7a4_16 : decode cJ6_bitCount_0f7a4 16 = .ok (.iconst 2, 1) := by decide +kernel
theorem dJ6_bitCount_0f7a4_17 : decode cJ6_bitCount_0f7a4 17 = .ok (.iushr, 1) := by decide +kernel
theorem dJ6_bitCount_0f7a4_18 : decode cJ6_bitCount_0f7a4 18 = .ok (.ldc_w 266, 3) := by decide +kernel
theorem dJ6_bitCount_0f7a4_21 : decode cJ6_bitCount_0f7a4 21 = .ok (.iand, 1) := by decide +kernel
theorem dJ6_bitCount_0f7a4_22 : decode cJ6_bitCount_0f7a4 22 = .ok (.iadd, 1) := by decide +kernel
theorem dJ6_bitCount_0f7a4_23 : decode cJ6_bitCount_0f7a4 23 = .ok (.istore_n 0, 1) := by decide +kernel
theorem dJ6_bitCount_0f7a4_24 : decode cJ6_bitCount_0f7a4 24 = .ok (.iload_n 0, 1) := by decide +kernel
theorem dJ6_bitCount_0f7a4_25 : decode cJ6_bitCount_0f7a4 25 = .ok (.iload_n 0, 1) := by decide +kernel
theorem dJ6_bitCount_0f7a4_26 : decode cJ6_bitCount_0f7a4 26 = .ok (.iconst 4, 1) := by decide +kernel
theorem dJ6_bitCount_0f7a4_27 : decode cJ6_bitCount_0f7a4 27 = .ok (.iushr, 1) := by decide +kernel
theorem dJ6_bitCount_0f7a4_28 : decode cJ6_bitCount_0f7a4 28 = .ok (.iadd, 1) := by decide +kernel
theorem dJ6_bitCount_0f7a4_29 : decode cJ6_bitCount_0f7a4 29 = .ok (.ldc_w 267, 3) := by decide +kernel
theorem dJ6_bitCount_0f7a4_32 : decode cJ6_bitCount_0f7a4 32 = .ok (.iand, 1) := by decide +kernel
theorem dJ6_bitCount_0f7a4_33 : decode cJ6_bitCount_0f7a4 33 = .ok (.istore_n 0, 1) := by decide +kernel
theorem dJ6_bitCount_0f7a4_34 : decode cJ6_bitCount_0f7a4 34 = .ok (.iload_n 0, 1) := by decide +kernel
theorem dJ6_bitCount_0f7a4_35 : decode cJ6_bitCount_0f7a4 35 = .ok (.iload_n 0, 1) := by decide +kernel
theorem dJ6_bitCount_0f7a4_36 : decode cJ6_bitCount_0f7a4 36 = .ok (.bipush 8, 2) := by decide +kernel
theorem dJ6_bitCount_0f7a4_38 : decode cJ6_bitCount_0f7a4 38 = .ok (.iushr, 1) := by decide +kernel
theorem dJ6_bitCount_0f7a4_39 : decode cJ6_bitCount_0f7a4 39 = .ok (.iadd, 1) := by decide +kernel
theorem dJ6_bitCount_0f7a4_40 : decode cJ6_bitCount_0f7a4 40 = .ok (.istore_n 0, 1) := by decide +kernel
theorem dJ6_bitCount_0f7a4_41 : decode cJ6_bitCount_0f7a4 41 = .ok (.iload_n 0, 1) := by decide +kernel
theorem dJ6_bitCount_0f7a4_42 : decode cJ6_bitCount_0f7a4 42 = .ok (.iload_n 0, 1) := by decide +kernel
theorem dJ6_bitCount_0f7a4_43 : decode cJ6_bitCount_0f7a4 43 = .ok (.bipush 16, 2) := by decide +kernel
theorem dJ6_bitCount_0f7a4_45 : decode cJ6_bitCount_0f7a4 45 = .ok (.iushr, 1) := by decide +kernel
theorem dJ6_bitCount_0f7a4_46 : decode cJ6_bitCount_0f7a4 46 = .ok (.iadd, 1) := by decide +kernel
theorem dJ6_bitCount_0f7a4_47 : decode cJ6_bitCount_0f7a4 47 = .ok (.istore_n 0, 1) := by decide +kernel
theorem dJ6_bitCount_0f7a4_48 : decode cJ6_bitCount_0f7a4 48 = .ok (.iload_n 0, 1) := by decide +kernel
theorem dJ6_bitCount_0f7a4_49 : decode cJ6_bitCount_0f7a4 49 = .ok (.bipush 63, 2) := by decide +kernel
theorem dJ6_bitCount_0f7a4_51 : decode cJ6_bitCount_0f7a4 51 = .ok (.iand, 1) := by decide +kernel
theorem dJ6_bitCount_0f7a4_52 : decode cJ6_bitCount_0f7a4 52 = .ok (.ireturn, 1) := by decide +kernel
theorem dJ0_length_8abf5_0 : decode cJ0_length_8abf5 0 = .ok (.aload_n 0, 1) := by decide +kernel
theorem dJ0_length_8abf5_1 : decode cJ0_length_8abf5 1 = .ok (.getfield 9, 3) := by decide +kernel
theorem dJ0_length_8abf5_4 : decode cJ0_length_8abf5 4 = .ok (.arraylength, 1) := by decide +kernel
theorem dJ0_length_8abf5_5 : decode cJ0_length_8abf5 5 = .ok (.aload_n 0, 1) := by decide +kernel
theorem dJ0_length_8abf5_6 : decode cJ0_length_8abf5 6 = .ok (.invokevirtual 335, 3) := by decide +kernel
theorem dJ0_length_8abf5_9 : decode cJ0_length_8abf5 9 = .ok (.ishr, 1) := by decide +kernel
theorem dJ0_length_8abf5_10 : decode cJ0_length_8abf5 10 = .ok (.ireturn, 1) := by decide +kernel
theorem dJ0_charAt_5068e_0 : decode cJ0_charAt_5068e 0 = .ok (.aload_n 0, 1) := by decide +kernel
theorem dJ0_charAt_5068e_1 : decode cJ0_charAt_5068e 1 = .ok (.invokevirtual 492, 3) := by decide +kernel
theorem dJ0_charAt_5068e_4 : decode cJ0_charAt_5068e 4 = .ok (.ifCond .eq 12, 3) := by decide +kernel
theorem dJ0_charAt_5068e_7 : decode cJ0_charAt_5068e 7 = .ok (.aload_n 0, 1) := by decide +kernel
theorem dJ0_charAt_5068e_8 : decode cJ0_charAt_5068e 8 = .ok (.getfield 9, 3) := by decide +kernel
theorem dJ0_charAt_5068e_11 : decode cJ0_charAt_5068e 11 = .ok (.iload_n 1, 1) := by decide +kernel
theorem dJ0_charAt_5068e_12 : decode cJ0_charAt_5068e 12 = .ok (.invokestatic 495, 3) := by decide +kernel
theorem dJ0_charAt_5068e_15 : decode cJ0_charAt_5068e 15 = .ok (.ireturn, 1) := by decide +kernel
theorem dJ0_charAt_5068e_16 : decode cJ0_charAt_5068e 16 = .ok (.aload_n 0, 1) := by decide +kernel
theorem dJ0_charAt_5068e_17 : decode cJ0_charAt_5068e 17 = .ok (.getfield 9, 3) := by decide +kernel
theorem dJ0_charAt_5068e_20 : decode cJ0_charAt_5068e 20 = .ok (.iload_n 1, 1) := by decide +kernel
theorem dJ0_charAt_5068e_21 : decode cJ0_charAt_5068e 21 = .ok (.invokestatic 498, 3) := by decide +kernel
theorem dJ0_charAt_5068e_24 : decode cJ0_charAt_5068e 24 = .ok (.ireturn, 1) := by decide +kernel
theorem dJ0_indexOf_0f7a4_0 : decode cJ0_indexOf_0f7a4 0 = .ok (.aload_n 0, 1) := by decide +kernel
theorem dJ0_indexOf_0f7a4_1 : decode cJ0_indexOf_0f7a4 1 = .ok (.iload_n 1, 1) := by decide +kernel
theorem dJ0_indexOf_0f7a4_2 : decode cJ0_indexOf_0f7a4 2 = .ok (.iconst 0, 1) := by decide +kernel
theorem dJ0_indexOf_0f7a4_3 : decode cJ0_indexOf_0f7a4 3 = .ok (.invokevirtual 633, 3) := by decide +kernel
theorem dJ0_indexOf_0f7a4_6 : decode cJ0_indexOf_0f7a4 6 = .ok (.ireturn, 1) := by decide +kernel
theorem dJ0_indexOf_7cf53_0 : decode cJ0_indexOf_7cf53 0 = .ok (.aload_n 0, 1) := by decide +kernel
theorem dJ0_indexOf_7cf53_1 : decode cJ0_indexOf_7cf53 1 = .ok (.invokevirtual 492, 3) := by decide +kernel
theorem dJ0_indexOf_7cf53_4 : decode cJ0_indexOf_7cf53 4 = .ok (.ifCond .eq 19, 3) := by decide +kernel
theorem dJ0_indexOf_7cf53_7 : decode cJ0_indexOf_7cf53 7 = .ok (.aload_n 0, 1) := by decide +kernel
theorem dJ0_indexOf_7cf53_8 : decode cJ0_indexOf_7cf53 8 = .ok (.getfield 9, 3) := by decide +kernel
theorem dJ0_indexOf_7cf53_11 : decode cJ0_indexOf_7cf53 11 = .ok (.iload_n 1, 1) := by decide +kernel
theorem dJ0_indexOf_7cf53_12 : decode cJ0_indexOf_7cf53 12 = .ok (.iload_n 2, 1) := by decide +kernel
theorem dJ0_indexOf_7cf53_13 : decode cJ0_indexOf_7cf53 13 = .ok (.aload_n 0, 1) := by decide +kernel
theorem dJ0_indexOf_7cf53_14 : decode cJ0_indexOf_7cf53 14 = .ok (.invokevirtual 505, 3) := by decide +kernel
theorem dJ0_indexOf_7cf53_17 : decode cJ0_indexOf_7cf53 17 = .ok (.invokestatic 637, 3) := by decide +kernel
theorem dJ0_indexOf_7cf53_20 : decode cJ0_indexOf_7cf53 20 = .ok (.goto 16, 3) := by decide +kernel
theorem dJ0_indexOf_7cf53_23 : decode cJ0_indexOf_7cf53 23 = .ok (.aload_n 0, 1) := by decide +kernel
theorem dJ0_indexOf_7cf53_24 : decode cJ0_indexOf_7cf53 24 = .ok (.getfield 9, 3) := by decide +kernel
theorem dJ0_indexOf_7cf53_27 : decode cJ0_indexOf_7cf53 27 = .ok (.iload_n 1, 1) := by decide +kernel
theorem dJ0_indexOf_7cf53_28 : decode cJ0_indexOf_7cf53 28 = .ok (.iload_n 2, 1) := by decide +kernel
theorem dJ0_indexOf_7cf53_29 : decode cJ0_indexOf_7cf53 29 = .ok (.aload_n 0, 1) := by decide +kernel
theorem dJ0_indexOf_7cf53_30 : decode cJ0_indexOf_7cf53 30 = .ok (.invokevirtual 505, 3) := by decide +kernel
theorem dJ0_indexOf_7cf53_33 : decode cJ0_indexOf_7cf53 33 = .ok (.invokestatic 640, 3) := by decide +kernel
theorem dJ0_indexOf_7cf53_36 : decode cJ0_indexOf_7cf53 36 = .ok (.ireturn, 1) := by decide +kernel
theorem dJ0_coder_7d493_0 : decode cJ0_coder_7d493 0 = .ok (.getstatic 38, 3) := by decide +kernel
theorem dJ0_coder_7d493_3 : decode cJ0_coder_7d493 3 = .ok (.ifCond .eq 10, 3) := by decide +kernel
theorem dJ0_coder_7d493_6 : decode cJ0_coder_7d493 6 = .ok (.aload_n 0, 1) := by decide +kernel
theorem dJ0_coder_7d493_7 : decode cJ0_coder_7d493 7 = .ok (.getfield 15, 3) := by decide +kernel
theorem dJ0_coder_7d493_10 : decode cJ0_coder_7d493 10 = .ok (.goto 4, 3) := by decide +kernel
theorem dJ0_coder_7d493_13 : decode cJ0_coder_7d493 13 = .ok (.iconst 1, 1) := by decide +kernel
theorem dJ0_coder_7d493_14 : decode cJ0_coder_7d493 14 = .ok (.ireturn, 1) := by decide +kernel
theorem dJ0_isLatin1_aae02_0 : decode cJ0_isLatin1_aae02 0 = .ok (.getstatic 38, 3) := by decide +kernel
theorem dJ0_isLatin1_aae02_3 : decode cJ0_isLatin1_aae02 3 = .ok (.ifCond .eq 14, 3) := by decide +kernel
theorem dJ0_isLatin1_aae02_6 : decode cJ0_isLatin1_aae02 6 = .ok (.aload_n 0, 1) := by decide +kernel
theorem dJ0_isLatin1_aae02_7 : decode cJ0_isLatin1_aae02 7 = .ok (.getfield 15, 3) := by decide +kernel
theorem dJ0_isLatin1_aae02_10 : decode cJ0_isLatin1_aae02 10 = .ok (.ifCond .ne 7, 3) := by decide +kernel
theorem dJ0_isLatin1_aae02_13 : decode cJ0_isLatin1_aae02 13 = .ok (.iconst 1, 1) := by decide +kernel
theorem dJ0_isLatin1_aae02_14 : decode cJ0_isLatin1_aae02 14 = .ok (.goto 4, 3) := by decide +kernel
theorem dJ0_isLatin1_aae02_17 : decode cJ0_isLatin1_aae02 17 = .ok (.iconst 0, 1) := by decide +kernel
theorem dJ0_isLatin1_aae02_18 : decode cJ0_isLatin1_aae02 18 = .ok (.ireturn, 1) := by decide +kernel
theorem dJ0_checkIndex_df160_0 : decode cJ0_checkIndex_df160 0 = .ok (.iload_n 0, 1) := by decide +kernel
theorem dJ0_checkIndex_df160_1 : decode cJ0_checkIndex_df160 1 = .ok (.iload_n 1, 1) := by decide +kernel
theorem dJ0_checkIndex_df160_2 : decode cJ0_checkIndex_df160 2 = .ok (.getstatic 1053, 3) := by decide +kernel
theorem dJ0_checkIndex_df160_5 : decode cJ0_checkIndex_df160 5 = .ok (.invokestatic 1059, 3) := by decide +kernel
theorem dJ0_checkIndex_df160_8 : decode cJ0_checkIndex_df160 8 = .ok (.pop, 1) := by decide +kernel
theorem dJ0_checkIndex_df160_9 : decode cJ0_checkIndex_df160 9 = .ok (.return_, 1) := by decide +kernel
theorem dJ1_charAt_3b067_0 : decode cJ1_charAt_3b067 0 = .ok (.iload_n 1, 1) := by decide +kernel
theorem dJ1_charAt_3b067_1 : decode cJ1_charAt_3b067 1 = .ok (.aload_n 0, 1) := by decide +kernel
theorem dJ1_charAt_3b067_2 : decode cJ1_charAt_3b067 2 = .ok (.arraylength, 1) := by decide +kernel
theorem dJ1_charAt_3b067_3 : decode cJ1_charAt_3b067 3 = .ok (.invokestatic 9, 3) := by decide +kernel
theorem dJ1_charAt_3b067_6 : decode cJ1_charAt_3b067 6 = .ok (.aload_n 0, 1) := by decide +kernel
theorem dJ1_charAt_3b067_7 : decode cJ1_charAt_3b067 7 = .ok (.iload_n 1, 1) := by decide +kernel
theorem dJ1_charAt_3b067_8 : decode cJ1_charAt_3b067 8 = .ok (.baload, 1) := by decide +kernel
theorem dJ1_charAt_3b067_9 : decode cJ1_charAt_3b067 9 = .ok (.sipush 255, 3) := by decide +kernel
theorem dJ1_charAt_3b067_12 : decode cJ1_charAt_3b067 12 = .ok (.iand, 1) := by decide +kernel
theorem dJ1_charAt_3b067_13 : decode cJ1_charAt_3b067 13 = .ok (.i2c, 1) := by decide +kernel
theorem dJ1_charAt_3b067_14 : decode cJ1_charAt_3b067 14 = .ok (.ireturn, 1) := by decide +kernel
theorem dJ1_canEncode_9a6ad_0 : decode cJ1_canEncode_9a6ad 0 = .ok (.iload_n 0, 1) := by decide +kernel
theorem dJ1_canEncode_9a6ad_1 : decode cJ1_canEncode_9a6ad 1 = .ok (.ifCond .lt 14, 3) := by decide +kernel
theorem dJ1_canEncode_9a6ad_4 : decode cJ1_canEncode_9a6ad 4 = .ok (.iload_n 0, 1) := by decide +kernel
theorem dJ1_canEncode_9a6ad_5 : decode cJ1_canEncode_9a6ad 5 = .ok (.sipush 255, 3) := by decide +kernel
theorem dJ1_canEncode_9a6ad_8 : decode cJ1_canEncode_9a6ad 8 = .ok (.if_icmp .gt 7, 3) := by decide +kernel
theorem dJ1_canEncode_9a6ad_11 : decode cJ1_canEncode_9a6ad 11 = .ok (.iconst 1, 1) := by decide +kernel
theorem dJ1_canEncode_9a6ad_12 : decode cJ1_canEncode_9a6ad 12 = .ok (.goto 4, 3) := by decide +kernel
theorem dJ1_canEncode_9a6ad_15 : decode cJ1_canEncode_9a6ad 15 = .ok (.iconst 0, 1) := by decide +kernel
theorem dJ1_canEncode_9a6ad_16 : decode cJ1_canEncode_9a6ad 16 = .ok (.ireturn, 1) := by decide +kernel
theorem dJ1_indexOf_4cfef_0 : decode cJ1_indexOf_4cfef 0 = .ok (.iload_n 1, 1) := by decide +kernel
theorem dJ1_indexOf_4cfef_1 : decode cJ1_indexOf_4cfef 1 = .ok (.invokestatic 88, 3) := by decide +kernel
theorem dJ1_indexOf_4cfef_4 : decode cJ1_indexOf_4cfef 4 = .ok (.ifCond .ne 5, 3) := by decide +kernel
theorem dJ1_indexOf_4cfef_7 : decode cJ1_indexOf_4cfef 7 = .ok (.iconst (-1), 1) := by decide +kernel
theorem dJ1_indexOf_4cfef_8 : decode cJ1_indexOf_4cfef 8 = .ok (.ireturn, 1) := by decide +kernel
theorem dJ1_indexOf_4cfef_9 : decode cJ1_indexOf_4cfef 9 = .ok (.iload_n 2, 1) := by decide +kernel
theorem dJ1_indexOf_4cfef_10 : decode cJ1_indexOf_4cfef 10 = .ok (.iconst 0, 1) := by decide +kernel
theorem dJ1_indexOf_4cfef_11 : decode cJ1_indexOf_4cfef 11 = .ok (.invokestatic 92, 3) := by decide +kernel
theorem dJ1_indexOf_4cfef_14 : decode cJ1_indexOf_4cfef 14 = .ok (.istore_n 2, 1) := by decide +kernel
theorem dJ1_indexOf_4cfef_15 : decode cJ1_indexOf_4cfef 15 = .ok (.iload_n 3, 1) := by decide +kernel
theorem dJ1_indexOf_4cfef_16 : decode cJ1_indexOf_4cfef 16 = .ok (.aload_n 0, 1) := by decide +kernel
theorem dJ1_indexOf_4cfef_17 : decode cJ1_indexOf_4cfef 17 = .ok (.arraylength, 1) := by decide +kernel
theorem dJ1_indexOf_4cfef_18 : decode cJ1_indexOf_4cfef 18 = .ok (.invokestatic 38, 3) := by decide +kernel
theorem dJ1_indexOf_4cfef_21 : decode cJ1_indexOf_4cfef 21 = .ok (.istore_n 3, 1) := by decide +kernel
theorem dJ1_indexOf_4cfef_22 : decode cJ1_indexOf_4cfef 22 = .ok (.iload_n 2, 1) := by decide +kernel
theorem dJ1_indexOf_4cfef_23 : decode cJ1_indexOf_4cfef 23 = .ok (.iload_n 3, 1) := by decide +kernel
theorem dJ1_indexOf_4cfef_24 : decode cJ1_indexOf_4cfef 24 = .ok (.if_icmp .lt 5, 3) := by decide +kernel
theorem dJ1_indexOf_4cfef_27 : decode cJ1_indexOf_4cfef 27 = .ok (.iconst (-1), 1) := by decide +kernel
theorem dJ1_indexOf_4cfef_28 : decode cJ1_indexOf_4cfef 28 = .ok (.ireturn, 1) := by decide +kernel
theorem dJ1_indexOf_4cfef_29 : decode cJ1_indexOf_4cfef 29 = .ok (.aload_n 0, 1) := by decide +kernel
theorem dJ1_indexOf_4cfef_30 : decode cJ1_indexOf_4cfef 30 = .ok (.iload_n 1, 1) := by decide +kernel
theorem dJ1_indexOf_4cfef_31 : decode cJ1_indexOf_4cfef 31 = .ok (.iload_n 2, 1) := by decide +kernel
theorem dJ1_indexOf_4cfef_32 : decode cJ1_indexOf_4cfef 32 = .ok (.iload_n 3, 1) := by decide +kernel
theorem dJ1_indexOf_4cfef_33 : decode cJ1_indexOf_4cfef 33 = .ok (.invokestatic 95, 3) := by decide +kernel
theorem dJ1_indexOf_4cfef_36 : decode cJ1_indexOf_4cfef 36 = .ok (.ireturn, 1) := by decide +kernel
theorem dJ1_indexOfChar_4cfef_0 : decode cJ1_indexOfChar_4cfef 0 = .ok (.iload_n 1, 1) := by decide +kernel
theorem dJ1_indexOfChar_4cfef_1 : decode cJ1_indexOfChar_4cfef 1 = .ok (.i2b, 1) := by decide +kernel
theorem dJ1_indexOfChar_4cfef_2 : decode cJ1_indexOfChar_4cfef 2 = .ok (.istore 4, 2) := by decide +kernel
theorem dJ1_indexOfChar_4cfef_4 : decode cJ1_indexOfChar_4cfef 4 = .ok (.iload_n 2, 1) := by decide +kernel
theorem dJ1_indexOfChar_4cfef_5 : decode cJ1_indexOfChar_4cfef 5 = .ok (.istore 5, 2) := by decide +kernel
theorem dJ1_indexOfChar_4cfef_7 : decode cJ1_indexOfChar_4cfef 7 = .ok (.iload 5, 2) := by decide +kernel
theorem dJ1_indexOfChar_4cfef_9 : decode cJ1_indexOfChar_4cfef 9 = .ok (.iload_n 3, 1) := by decide +kernel
theorem dJ1_indexOfChar_4cfef_10 : decode cJ1_indexOfChar_4cfef 10 = .ok (.if_icmp .ge 21, 3) := by decide +kernel
theorem dJ1_indexOfChar_4cfef_13 : decode cJ1_indexOfChar_4cfef 13 = .ok (.aload_n 0, 1) := by decide +kernel
theorem dJ1_indexOfChar_4cfef_14 : decode cJ1_indexOfChar_4cfef 14 = .ok (.iload 5, 2) := by decide +kernel
theorem dJ1_indexOfChar_4cfef_16 : decode cJ1_indexOfChar_4cfef 16 = .ok (.baload, 1) := by decide +kernel
theorem dJ1_indexOfChar_4cfef_17 : decode cJ1_indexOfChar_4cfef 17 = .ok (.iload 4, 2) := by decide +kernel
theorem dJ1_indexOfChar_4cfef_19 : decode cJ1_indexOfChar_4cfef 19 = .ok (.if_icmp .ne 6, 3) := by decide +kernel
theorem dJ1_indexOfChar_4cfef_22 : decode cJ1_indexOfChar_4cfef 22 = .ok (.iload 5, 2) := by decide +kernel
theorem dJ1_indexOfChar_4cfef_24 : decode cJ1_indexOfChar_4cfef 24 = .ok (.ireturn, 1) := by decide +kernel
theorem dJ1_indexOfChar_4cfef_25 : decode cJ1_indexOfChar_4cfef 25 = .ok (.iinc 5 1, 3) := by decide +kernel
theorem dJ1_indexOfChar_4cfef_28 : decode cJ1_indexOfChar_4cfef 28 = .ok (.goto (-21), 3) := by decide +kernel
theorem dJ1_indexOfChar_4cfef_31 : decode cJ1_indexOfChar_4cfef 31 = .ok (.iconst (-1), 1) := by decide +kernel
theorem dJ1_indexOfChar_4cfef_32 : decode cJ1_indexOfChar_4cfef 32 = .ok (.ireturn, 1) := by decide +kernel
theorem dJ3_checkIndex_8e157_0 : decode cJ3_checkIndex_8e157 0 = .ok (.iload_n 0, 1) := by decide +kernel
theorem dJ3_checkIndex_8e157_1 : decode cJ3_checkIndex_8e157 1 = .ok (.ifCond .lt 8, 3) := by decide +kernel
theorem dJ3_checkIndex_8e157_4 : decode cJ3_checkIndex_8e157 4 = .ok (.iload_n 0, 1) := by decide +kernel
theorem dJ3_checkIndex_8e157_5 : decode cJ3_checkIndex_8e157 5 = .ok (.iload_n 1, 1) := by decide +kernel
theorem dJ3_checkIndex_8e157_6 : decode cJ3_checkIndex_8e157 6 = .ok (.if_icmp .lt 10, 3) := by decide +kernel
theorem dJ3_checkIndex_8e157_9 : decode cJ3_checkIndex_8e157 9 = .ok (.aload_n 2, 1) := by decide +kernel
theorem dJ3_checkIndex_8e157_10 : decode cJ3_checkIndex_8e157 10 = .ok (.iload_n 0, 1) := by decide +kernel
theorem dJ3_checkIndex_8e157_11 : decode cJ3_checkIndex_8e157 11 = .ok (.iload_n 1, 1) := by decide +kernel
theorem dJ3_checkIndex_8e157_12 : decode cJ3_checkIndex_8e157 12 = .ok (.invokestatic 95, 3) := by decide +kernel
theorem dJ3_checkIndex_8e157_15 : decode cJ3_checkIndex_8e157 15 = .ok (.athrow, 1) := by decide +kernel
theorem dJ3_checkIndex_8e157_16 : decode cJ3_checkIndex_8e157 16 = .ok (.iload_n 0, 1) := by decide +kernel
theorem dJ3_checkIndex_8e157_17 : decode cJ3_checkIndex_8e157 17 = .ok (.ireturn, 1) := by decide +kernel
