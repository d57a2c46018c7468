theorem dX9_init_0 : decode cX9_init 0 = .ok (.aload_n 0, 1) := by decide +kernel
theorem dX9_init_1 : decode cX9_init 1 = .ok (.invokespecial 1, 3) := by decide +kernel
theorem dX9_init_4 : decode cX9_init 4 = .ok (.aload_n 0, 1) := by decide +kernel
theorem dX9_init_5 : decode cX9_init 5 = .ok (.iconst 0, 1) := by decide +kernel
theorem dX9_init_6 : decode cX9_init 6 = .ok (.putfield 7, 3) := by decide +kernel
theorem dX9_init_9 : decode cX9_init 9 = .ok (.aload_n 0, 1) := by decide +kernel
theorem dX9_init_10 : decode cX9_init 10 = .ok (.iconst 0, 1) := by decide +kernel
theorem dX9_init_11 : decode cX9_init 11 = .ok (.putfield 13, 3) := by decide +kernel
theorem dX9_init_14 : decode cX9_init 14 = .ok (.aload_n 0, 1) := by decide +kernel
theorem dX9_init_15 : decode cX9_init 15 = .ok (.bipush 16, 2) := by decide +kernel
theorem dX9_init_17 : decode cX9_init 17 = .ok (.newarray .int, 2) := by decide +kernel
theorem dX9_init_19 : decode cX9_init 19 = .ok (.putfield 16, 3) := by decide +kernel
theorem dX9_init_22 : decode cX9_init 22 = .ok (.aload_n 0, 1) := by decide +kernel
theorem dX9_init_23 : decode cX9_init 23 = .ok (.iconst 5, 1) := by decide +kernel
theorem dX9_init_24 : decode cX9_init 24 = .ok (.newarray .int, 2) := by decide +kernel
theorem dX9_init_26 : decode cX9_init 26 = .ok (.putfield 20, 3) := by decide +kernel
theorem dX9_init_29 : decode cX9_init 29 = .ok (.aload_n 0, 1) := by decide +kernel
theorem dX9_init_30 : decode cX9_init 30 = .ok (.iconst 5, 1) := by decide +kernel
theorem dX9_init_31 : decode cX9_init 31 = .ok (.newarray .int, 2) := by decide +kernel
theorem dX9_init_33 : decode cX9_init 33 = .ok (.putfield 23, 3) := by decide +kernel
theorem dX9_init_36 : decode cX9_init 36 = .ok (.aload_n 0, 1) := by decide +kernel
theorem dX9_init_37 : decode cX9_init 37 = .ok (.iconst 5, 1) := by decide +kernel
theorem dX9_init_38 : decode cX9_init 38 = .ok (.newarray .int, 2) := by decide +kernel
theorem dX9_init_40 : decode cX9_init 40 = .ok (.putfield 26, 3) := by decide +kernel
theorem dX9_init_43 : decode cX9_init 43 = .ok (.aload_n 0, 1) := by decide +kernel
theorem dX9_init_44 : decode cX9_init 44 = .ok (.bipush 20, 2) := by decide +kernel
theorem dX9_init_46 : decode cX9_init 46 = .ok (.newarray .int, 2) := by decide +kernel
theorem dX9_init_48 : decode cX9_init 48 = .ok (.putfield 29, 3) := by decide +kernel
theorem dX9_init_51 : decode cX9_init 51 = .ok (.aload_n 0, 1) := by decide +kernel
theorem dX9_init_52 : decode cX9_init 52 = .ok (.iconst 0, 1) := by decide +kernel
theorem dX9_init_53 : decode cX9_init 53 = .ok (.putfield 32, 3) := by decide +kernel
theorem dX9_init_56 : decode cX9_init 56 = .ok (.aload_n 0, 1) := by decide +kernel
theorem dX9_init_57 : decode cX9_init 57 = .ok (.iconst (-1), 1) := by decide +kernel
theorem dX9_init_58 : decode cX9_init 58 = .ok (.putfield 35, 3) := by decide +kernel
theorem dX9_init_61 : decode cX9_init 61 = .ok (.aload_n 0, 1) := by decide +kernel
theorem dX9_init_62 : decode cX9_init 62 = .ok (.iconst 0, 1) := by decide +kernel
theorem dX9_init_63 : decode cX9_init 63 = .ok (.putfield 38, 3) := by decide +kernel
theorem dX9_init_66 : decode cX9_init 66 = .ok (.aload_n 0, 1) := by decide +kernel
theorem dX9_init_67 : decode cX9_init 67 = .ok (.iconst 0, 1) := by decide +kernel
theorem dX9_init_68 : decode cX9_init 68 = .ok (.putfield 41, 3) := by decide +kernel
theorem dX9_init_71 : decode cX9_init 71 = .ok (.aload_n 0, 1) := by decide +kernel
theorem dX9_init_72 : decode cX9_init 72 = .ok (.iconst 0, 1) := by decide +kernel
theorem dX9_init_73 : decode cX9_init 73 = .ok (.putfield 44, 3) := by decide +kernel
theorem dX9_init_76 : decode cX9_init 76 = .ok (.aload_n 0, 1) := by decide +kernel
theorem dX9_init_77 : decode cX9_init 77 = .ok (.bipush 100, 2) := by decide +kernel
theorem dX9_init_79 : decode cX9_init 79 = .ok (.newarray .int, 2) := by decide +kernel
theorem dX9_init_81 : decode cX9_init 81 = .ok (.putfield 47, 3) := by decide +kernel
theorem dX9_init_84 : decode cX9_init 84 = .ok (.aload_n 0, 1) := by decide +kernel
theorem dX9_init_85 : decode cX9_init 85 = .ok (.bipush 6, 2) := by decide +kernel
theorem dX9_init_87 : decode cX9_init 87 = .ok (.newarray .int, 2) := by decide +kernel
theorem dX9_init_89 : decode cX9_init 89 = .ok (.putfield 50, 3) := by decide +kernel
theorem dX9_init_92 : decode cX9_init 92 = .ok (.aload_n 0, 1) := by decide +kernel
theorem dX9_init_93 : decode cX9_init 93 = .ok (.bipush 60, 2) := by decide +kernel
theorem dX9_init_95 : decode cX9_init 95 = .ok (.newarray .int, 2) := by decide +kernel
theorem dX9_init_97 : decode cX9_init 97 = .ok (.putfield 53, 3) := by decide +kernel
theorem dX9_init_100 : decode cX9_init 100 = .ok (.aload_n 0, 1) := by decide +kernel
theorem dX9_init_101 : decode cX9_init 101 = .ok (.bipush 60, 2) := by decide +kernel
theorem dX9_init_103 : decode cX9_init 103 = .ok (.newarray .int, 2) := by decide +kernel
theorem dX9_init_105 : decode cX9_init 105 = .ok (.putfield 56, 3) := by decide +kernel
theorem dX9_init_108 : decode cX9_init 108 = .ok (.aload_n 0, 1) := by decide +kernel
theorem dX9_init_109 : decode cX9_init 109 = .ok (.bipush 60, 2) := by decide +kernel
theorem dX9_init_111 : decode cX9_init 111 = .ok (.newarray .int, 2) := by decide +kernel
theorem dX9_init_113 : decode cX9_init 113 = .ok (.putfield 59, 3) := by decide +kernel
theorem dX9_init_116 : decode cX9_init 116 = .ok (.aload_n 0, 1) := by decide +kernel
theorem dX9_init_117 : decode cX9_init 117 = .ok (.bipush 60, 2) := by decide +kernel
theorem dX9_init_119 : decode cX9_init 119 = .ok (.newarray .int, 2) := by decide +kernel
theorem dX9_init_121 : decode cX9_init 121 = .ok (.putfield 62, 3) := by decide +kernel
theorem dX9_init_124 : decode cX9_init 124 = .ok (.aload_n 0, 1) := by decide +kernel
theorem dX9_init_125 : decode cX9_init 125 = .ok (.sipush 600, 3) := by decide +kernel
theorem dX9_init_128 : decode cX9_init 128 = .ok (.newarray .int, 2) := by decide +kernel
theorem dX9_init_130 : decode cX9_init 130 = .ok (.putfield 65, 3) := by decide +kernel
theorem dX9_init_133 : decode cX9_init 133 = .ok (.aload_n 0, 1) := by decide +kernel
theorem dX9_init_134 : decode cX9_init 134 = .ok (.bipush 101, 2) := by decide +kernel
theorem dX9_init_136 : decode cX9_init 136 = .ok (.newarray .int, 2) := by decide +kernel
theorem dX9_init_138 : decode cX9_init 138 = .ok (.putfield 68, 3) := by decide +kernel
theorem dX9_init_141 : decode cX9_init 141 = .ok (.aload_n 0, 1) := by decide +kernel
theorem dX9_init_142 : decode cX9_init 142 = .ok (.iconst 0, 1) := by decide +kernel
theorem dX9_init_143 : decode cX9_init 143 = .ok (.putfield 71, 3) := by decide +kernel
theorem dX9_init_146 : decode cX9_init 146 = .ok (.aload_n 0, 1) := by decide +kernel
theorem dX9_init_147 : decode cX9_init 147 = .ok (.iconst 0, 1) := by decide +kernel
theorem dX9_init_148 : decode cX9_init 148 = .ok (.putfield 74, 3) := by decide +kernel
theorem dX9_init_151 : decode cX9_init 151 = .ok (.aload_n 0, 1) := by decide +kernel
theorem dX9_init_152 : decode cX9_init 152 = .ok (.iconst 0, 1) := by decide +kernel
theorem dX9_init_153 : decode cX9_init 153 = .ok (.putfield 77, 3) := by decide +kernel
theorem dX9_init_156 : decode cX9_init 156 = .ok (.aload_n 0, 1) := by decide +kernel
theorem dX9_init_157 : decode cX9_init 157 = .ok (.bipush 18, 2) := by decide +kernel
theorem dX9_init_159 : decode cX9_init 159 = .ok (.newarray .int, 2) := by decide +kernel
theorem dX9_init_161 : decode cX9_init 161 = .ok (.dup, 1) := by decide +kernel
theorem dX9_init_162 : decode cX9_init 162 = .ok (.iconst 0, 1) := by decide +kernel
theorem dX9_init_163 : decode cX9_init 163 = .ok (.bipush 116, 2) := by decide +kernel
theorem dX9_init_165 : decode cX9_init 165 = .ok (.iastore, 1) := by decide +kernel
theorem dX9_init_166 : decode cX9_init 166 = .ok (.dup, 1) := by decide +kernel
theorem dX9_init_167 : decode cX9_init 167 = .ok (.iconst 1, 1) := by decide +kernel
theorem dX9_init_168 : decode cX9_init 168 = .ok (.bipush 104, 2) := by decide +kernel
theorem dX9_init_170 : decode cX9_init 170 = .ok (.iastore, 1) := by decide +kernel
theorem dX9_init_171 : decode cX9_init 171 = .ok (.dup, 1) := by decide +kernel
theorem dX9_init_172 : decode cX9_init 172 = .ok (.iconst 2, 1) := by decide +kernel
theorem dX9_init_173 : decode cX9_init 173 = .ok (.bipush 105, 2) := by decide +kernel
theorem dX9_init_175 : decode cX9_init 175 = .ok (.iastore, 1) := by decide +kernel
theorem dX9_init_176 : decode cX9_init 176 = .ok (.dup, 1) := by decide +kernel
theorem dX9_init_177 : decode cX9_init 177 = .ok (.iconst 3, 1) := by decide +kernel
theorem dX9_init_178 : decode cX9_init 178 = .ok (.bipush 99, 2) := by decide +kernel
theorem dX9_init_180 : decode cX9_init 180 = .ok (.iastore, 1) := by decide +kernel
theorem dX9_init_181 : decode cX9_init 181 = .ok (.dup, 1) := by decide +kernel
theorem dX9_init_182 : decode cX9_init 182 = .ok (.iconst 4, 1) := by decide +kernel
theorem dX9_init_183 : decode cX9_init 183 = .ok (.bipush 107, 2) := by decide +kernel
theorem dX9_init_185 : decode cX9_init 185 = .ok (.iastore, 1) := by decide +kernel
theorem dX9_init_186 : decode cX9_init 186 = .ok (.dup, 1) := by decide +kernel
theorem dX9_init_187 : decode cX9_init 187 = .ok (.iconst 5, 1) := by decide +kernel
theorem dX9_init_188 : decode cX9_init 188 = .ok (.bipush 116, 2) := by decide +kernel
theorem dX9_init_190 : decode cX9_init 190 = .ok (.iastore, 1) := by decide +kernel
theorem dX9_init_191 : decode cX9_init 191 = .ok (.dup, 1) := by decide +kernel
theorem dX9_init_192 : decode cX9_init 192 = .ok (.bipush 6, 2) := by decide +kernel
theorem dX9_init_194 : decode cX9_init 194 = .ok (.bipush 104, 2) := by decide +kernel
theorem dX9_init_196 : decode cX9_init 196 = .ok (.iastore, 1) := by decide +kernel
theorem dX9_init_197 : decode cX9_init 197 = .ok (.dup, 1) := by decide +kernel
theorem dX9_init_198 : decode cX9_init 198 = .ok (.bipush 7, 2) := by decide +kernel
theorem dX9_init_200 : decode cX9_init 200 = .ok (.bipush 105, 2) := by decide +kernel
theorem dX9_init_202 : decode cX9_init 202 = .ok (.iastore, 1) := by decide +kernel
theorem dX9_init_203 : decode cX9_init 203 = .ok (.dup, 1) := by decide +kernel
theorem dX9_init_204 : decode cX9_init 204 = .ok (.bipush 8, 2) := by decide +kernel
theorem dX9_init_206 : decode cX9_init 206 = .ok (.bipush 110, 2) := by decide +kernel
theorem dX9_init_208 : decode cX9_init 208 = .ok (.iastore, 1) := by decide +kernel
theorem dX9_init_209 : decode cX9_init 209 = .ok (.dup, 1) := by decide +kernel
theorem dX9_init_210 : decode cX9_init 210 = .ok (.bipush 9, 2) := by decide +kernel
theorem dX9_init_212 : decode cX9_init 212 = .ok (.bipush 115, 2) := by decide +kernel
theorem dX9_init_214 : decode cX9_init 214 = .ok (.iastore, 1) := by decide +kernel
theorem dX9_init_215 : decode cX9_init 215 = .ok (.dup, 1) := by decide +kernel
theorem dX9_init_216 : decode cX9_init 216 = .ok (.bipush 10, 2) := by decide +kernel
theorem dX9_init_218 : decode cX9_init 218 = .ok (.bipush 112, 2) := by decide +kernel
theorem dX9_init_220 : decode cX9_init 220 = .ok (.iastore, 1) := by decide +kernel
theorem dX9_init_221 : decode cX9_init 221 = .ok (.dup, 1) := by decide +kernel
theorem dX9_init_222 : decode cX9_init 222 = .ok (.bipush 11, 2) := by decide +kernel
theorem dX9_init_224 : decode cX9_init 224 = .ok (.bipush 111, 2) := by decide +kernel
theorem dX9_init_226 : decode cX9_init 226 = .ok (.iastore, 1) := by decide +kernel
theorem dX9_init_227 : decode cX9_init 227 = .ok (.dup, 1) := by decide +kernel
theorem dX9_init_228 : decode cX9_init 228 = .ok (.bipush 12, 2) := by decide +kernel
theorem dX9_init_230 : decode cX9_init 230 = .ok (.bipush 111, 2) := by decide +kernel
theorem dX9_init_232 : decode cX9_init 232 = .ok (.iastore, 1) := by decide +kernel
theorem dX9_init_233 : decode cX9_init 233 = .ok (.dup, 1) := by decide +kernel
theorem dX9_init_234 : decode cX9_init 234 = .ok (.bipush 13, 2) := by decide +kernel
theorem dX9_init_236 : decode cX9_init 236 = .ok (.bipush 110, 2) := by decide +kernel
theorem dX9_init_238 : decode cX9_init 238 = .ok (.iastore, 1) := by decide +kernel
theorem dX9_init_239 : decode cX9_init 239 = .ok (.dup, 1) := by decide +kernel
theorem dX9_init_240 : decode cX9_init 240 = .ok (.bipush 14, 2) := by decide +kernel
theorem dX9_init_242 : decode cX9_init 242 = .ok (.bipush 109, 2) := by decide +kernel
theorem dX9_init_244 : decode cX9_init 244 = .ok (.iastore, 1) := by decide +kernel
theorem dX9_init_245 : decode cX9_init 245 = .ok (.dup, 1) := by decide +kernel
theorem dX9_init_246 : decode cX9_init 246 = .ok (.bipush 15, 2) := by decide +kernel
theorem dX9_init_248 : decode cX9_init 248 = .ok (.bipush 105, 2) := by decide +kernel
theorem dX9_init_250 : decode cX9_init 250 = .ok (.iastore, 1) := by decide +kernel
theorem dX9_init_251 : decode cX9_init 251 = .ok (.dup, 1) := by decide +kernel
theorem dX9_init_252 : decode cX9_init 252 = .ok (.bipush 16, 2) := by decide +kernel
theorem dX9_init_254 : decode cX9_init 254 = .ok (.bipush 108, 2) := by decide +kernel
theorem dX9_init_256 : decode cX9_init 256 = .ok (.iastore, 1) := by decide +kernel
theorem dX9_init_257 : decode cX9_init 257 = .ok (.dup, 1) := by decide +kernel
theorem dX9_init_258 : decode cX9_init 258 = .ok (.bipush 17, 2) := by decide +kernel
theorem dX9_init_260 : decode cX9_init 260 = .ok (.bipush 107, 2) := by decide +kernel
theorem dX9_init_262 : decode cX9_init 262 = .ok (.iastore, 1) := by decide +kernel
theorem dX9_init_263 : decode cX9_init 263 = .ok (.putfield 80, 3) := by decide +kernel
theorem dX9_init_266 : decode cX9_init 266 = .ok (.aload_n 0, 1) := by decide +kernel
theorem dX9_init_267 : decode cX9_init 267 = .ok (.bipush 100, 2) := by decide +kernel
theorem dX9_init_269 : decode cX9_init 269 = .ok (.newarray .boolean, 2) := by decide +kernel
theorem dX9_init_271 : decode cX9_init 271 = .ok (.putfield 83, 3) := by decide +kernel
theorem dX9_init_274 : decode cX9_init 274 = .ok (.aload_n 0, 1) := by decide +kernel
theorem dX9_init_275 : decode cX9_init 275 = .ok (.iconst 0, 1) := by decide +kernel
theorem dX9_init_276 : decode cX9_init 276 = .ok (.putfield 87, 3) := by decide +kernel
theorem dX9_init_279 : decode cX9_init 279 = .ok (.aload_n 0, 1) := by decide +kernel
theorem dX9_init_280 : decode cX9_init 280 = .ok (.bipush 16, 2) := by decide +kernel
theorem dX9_init_282 : decode cX9_init 282 = .ok (.newarray .int, 2) := by decide +kernel
theorem dX9_init_284 : decode cX9_init 284 = .ok (.putfield 90, 3) := by decide +kernel
theorem dX9_init_287 : decode cX9_init 287 = .ok (.aload_n 0, 1) := by decide +kernel
theorem dX9_init_288 : decode cX9_init 288 = .ok (.bipush 16, 2) := by decide +kernel
theorem dX9_init_290 : decode cX9_init 290 = .ok (.newarray .int, 2) := by decide +kernel
theorem dX9_init_292 : decode cX9_init 292 = .ok (.putfield 93, 3) := by decide +kernel
theorem dX9_init_295 : decode cX9_init 295 = .ok (.aload_n 0, 1) := by decide +kernel
theorem dX9_init_296 : decode cX9_init 296 = .ok (.bipush 16, 2) := by decide +kernel
theorem dX9_init_298 : decode cX9_init 298 = .ok (.newarray .boolean, 2) := by decide +kernel
theorem dX9_init_300 : decode cX9_init 300 = .ok (.putfield 96, 3) := by decide +kernel
theorem dX9_init_303 : decode cX9_init 303 = .ok (.aload_n 0, 1) := by decide +kernel
theorem dX9_init_304 : decode cX9_init 304 = .ok (.iconst 0, 1) := by decide +kernel
theorem dX9_init_305 : decode cX9_init 305 = .ok (.putfield 99, 3) := by decide +kernel
theorem dX9_init_308 : decode cX9_init 308 = .ok (.aload_n 0, 1) := by decide +kernel
theorem dX9_init_309 : decode cX9_init 309 = .ok (.iconst 0, 1) := by decide +kernel
theorem dX9_init_310 : decode cX9_init 310 = .ok (.putfield 102, 3) := by decide +kernel
theorem dX9_init_313 : decode cX9_init 313 = .ok (.aload_n 0, 1) := by decide +kernel
theorem dX9_init_314 : decode cX9_init 314 = .ok (.bipush 16, 2) := by decide +kernel
theorem dX9_init_316 : decode cX9_init 316 = .ok (.newarray .int, 2) := by decide +kernel
theorem dX9_init_318 : decode cX9_init 318 = .ok (.putfield 105, 3) := by decide +kernel
theorem dX9_init_321 : decode cX9_init 321 = .ok (.aload_n 0, 1) := by decide +kernel
theorem dX9_init_322 : decode cX9_init 322 = .ok (.bipush 16, 2) := by decide +kernel
theorem dX9_init_324 : decode cX9_init 324 = .ok (.newarray .int, 2) := by decide +kernel
theorem dX9_init_326 : decode cX9_init 326 = .ok (.putfield 108, 3) := by decide +kernel
theorem dX9_init_329 : decode cX9_init 329 = .ok (.aload_n 0, 1) := by decide +kernel
theorem dX9_init_330 : decode cX9_init 330 = .ok (.iconst 0, 1) := by decide +kernel
theorem dX9_init_331 : decode cX9_init 331 = .ok (.putfield 111, 3) := by decide +kernel
theorem dX9_init_334 : decode cX9_init 334 = .ok (.aload_n 0, 1) := by decide +kernel
theorem dX9_init_335 : decode cX9_init 335 = .ok (.iconst 5, 1) := by decide +kernel
theorem dX9_init_336 : decode cX9_init 336 = .ok (.newarray .int, 2) := by decide +kernel
theorem dX9_init_338 : decode cX9_init 338 = .ok (.putfield 114, 3) := by decide +kernel
theorem dX9_init_341 : decode cX9_init 341 = .ok (.aload_n 0, 1) := by decide +kernel
theorem dX9_init_342 : decode cX9_init 342 = .ok (.iconst 5, 1) := by decide +kernel
theorem dX9_init_343 : decode cX9_init 343 = .ok (.newarray .int, 2) := by decide +kernel
theorem dX9_init_345 : decode cX9_init 345 = .ok (.putfield 117, 3) := by decide +kernel
theorem dX9_init_348 : decode cX9_init 348 = .ok (.aload_n 0, 1) := by decide +kernel
theorem dX9_init_349 : decode cX9_init 349 = .ok (.bipush 80, 2) := by decide +kernel
theorem dX9_init_351 : decode cX9_init 351 = .ok (.newarray .int, 2) := by decide +kernel
theorem dX9_init_353 : decode cX9_init 353 = .ok (.putfield 120, 3) := by decide +kernel
theorem dX9_init_356 : decode cX9_init 356 = .ok (.aload_n 0, 1) := by decide +kernel
theorem dX9_init_357 : decode cX9_init 357 = .ok (.iconst 5, 1) := by decide +kernel
theorem dX9_init_358 : decode cX9_init 358 = .ok (.newarray .boolean, 2) := by decide +kernel
theorem dX9_init_360 : decode cX9_init 360 = .ok (.putfield 123, 3) := by decide +kernel
theorem dX9_init_363 : decode cX9_init 363 = .ok (.aload_n 0, 1) := by decide +kernel
theorem dX9_init_364 : decode cX9_init 364 = .ok (.iconst 0, 1) := by decide +kernel
theorem dX9_init_365 : decode cX9_init 365 = .ok (.putfield 126, 3) := by decide +kernel
theorem dX9_init_368 : decode cX9_init 368 = .ok (.aload_n 0, 1) := by decide +kernel
theorem dX9_init_369 : decode cX9_init 369 = .ok (.iconst 0, 1) := by decide +kernel
theorem dX9_init_370 : decode cX9_init 370 = .ok (.putfield 129, 3) := by decide +kernel
theorem dX9_init_373 : decode cX9_init 373 = .ok (.aload_n 0, 1) := by decide +kernel
theorem dX9_init_374 : decode cX9_init 374 = .ok (.bipush 10, 2) := by decide +kernel
theorem dX9_init_376 : decode cX9_init 376 = .ok (.newarray .int, 2) := by decide +kernel
theorem dX9_init_378 : decode cX9_init 378 = .ok (.putfield 132, 3) := by decide +kernel
theorem dX9_init_381 : decode cX9_init 381 = .ok (.aload_n 0, 1) := by decide +kernel
theorem dX9_init_382 : decode cX9_init 382 = .ok (.bipush 10, 2) := by decide +kernel
theorem dX9_init_384 : decode cX9_init 384 = .ok (.newarray .int, 2) := by decide +kernel
theorem dX9_init_386 : decode cX9_init 386 = .ok (.putfield 135, 3) := by decide +kernel
theorem dX9_init_389 : decode cX9_init 389 = .ok (.aload_n 0, 1) := by decide +kernel
theorem dX9_init_390 : decode cX9_init 390 = .ok (.bipush 8, 2) := by decide +kernel
theorem dX9_init_392 : decode cX9_init 392 = .ok (.newarray .int, 2) := by decide +kernel
theorem dX9_init_394 : decode cX9_init 394 = .ok (.putfield 138, 3) := by decide +kernel
theorem dX9_init_397 : decode cX9_init 397 = .ok (.aload_n 0, 1) := by decide +kernel
theorem dX9_init_398 : decode cX9_init 398 = .ok (.bipush 8, 2) := by decide +kernel
theorem dX9_init_400 : decode cX9_init 400 = .ok (.newarray .int, 2) := by decide +kernel
theorem dX9_init_402 : decode cX9_init 402 = .ok (.putfield 141, 3) := by decide +kernel
theorem dX9_init_405 : decode cX9_init 405 = .ok (.aload_n 0, 1) := by decide +kernel
theorem dX9_init_406 : decode cX9_init 406 = .ok (.iconst 0, 1) := by decide +kernel
theorem dX9_init_407 : decode cX9_init 407 = .ok (.putfield 144, 3) := by decide +kernel
theorem dX9_init_410 : decode cX9_init 410 = .ok (.aload_n 0, 1) := by decide +kernel
theorem dX9_init_411 : decode cX9_init 411 = .ok (.iconst (-1), 1) := by decide +kernel
theorem dX9_init_412 : decode cX9_init 412 = .ok (.putfield 148, 3) := by decide +kernel
theorem dX9_init_415 : decode cX9_init 415 = .ok (.aload_n 0, 1) := by decide +kernel
theorem dX9_init_416 : decode cX9_init 416 = .ok (.iconst 0, 1) := by decide +kernel
theorem dX9_init_417 : decode cX9_init 417 = .ok (.putfield 151, 3) := by decide +kernel
theorem dX9_init_420 : decode cX9_init 420 = .ok (.aload_n 0, 1) := by decide +kernel
theorem dX9_init_421 : decode cX9_init 421 = .ok (.iconst 0, 1) := by decide +kernel
theorem dX9_init_422 : decode cX9_init 422 = .ok (.putfield 154, 3) := by decide +kernel
theorem dX9_init_425 : decode cX9_init 425 = .ok (.aload_n 0, 1) := by decide +kernel
theorem dX9_init_426 : decode cX9_init 426 = .ok (.iconst 0, 1) := by decide +kernel
theorem dX9_init_427 : decode cX9_init 427 = .ok (.putfield 157, 3) := by decide +kernel
theorem dX9_init_430 : decode cX9_init 430 = .ok (.aload_n 0, 1) := by decide +kernel
theorem dX9_init_431 : decode cX9_init 431 = .ok (.iconst 0, 1) := by decide +kernel
theorem dX9_init_432 : decode cX9_init 432 = .ok (.putfield 160, 3) := by decide +kernel
theorem dX9_init_435 : decode cX9_init 435 = .ok (.aload_n 0, 1) := by decide +kernel
theorem dX9_init_436 : decode cX9_init 436 = .ok (.iconst 0, 1) := by decide +kernel
theorem dX9_init_437 : decode cX9_init 437 = .ok (.putfield 163, 3) := by decide +kernel
theorem dX9_init_440 : decode cX9_init 440 = .ok (.aload_n 0, 1) := by decide +kernel
theorem dX9_init_441 : decode cX9_init 441 = .ok (.iconst 0, 1) := by decide +kernel
theorem dX9_init_442 : decode cX9_init 442 = .ok (.putfield 166, 3) := by decide +kernel
theorem dX9_init_445 : decode cX9_init 445 = .ok (.aload_n 0, 1) := by decide +kernel
theorem dX9_init_446 : decode cX9_init 446 = .ok (.bipush 16, 2) := by decide +kernel
theorem dX9_init_448 : decode cX9_init 448 = .ok (.newarray .int, 2) := by decide +kernel
theorem dX9_init_450 : decode cX9_init 450 = .ok (.putfield 169, 3) := by decide +kernel
theorem dX9_init_453 : decode cX9_init 453 = .ok (.aload_n 0, 1) := by decide +kernel
theorem dX9_init_454 : decode cX9_init 454 = .ok (.iconst 5, 1) := by decide +kernel
theorem dX9_init_455 : decode cX9_init 455 = .ok (.newarray .int, 2) := by decide +kernel
theorem dX9_init_457 : decode cX9_init 457 = .ok (.putfield 172, 3) := by decide +kernel
theorem dX9_init_460 : decode cX9_init 460 = .ok (.aload_n 0, 1) := by decide +kernel
theorem dX9_init_461 : decode cX9_init 461 = .ok (.iconst 5, 1) := by decide +kernel
theorem dX9_init_462 : decode cX9_init 462 = .ok (.newarray .int, 2) := by decide +kernel
theorem dX9_init_464 : decode cX9_init 464 = .ok (.putfield 175, 3) := by decide +kernel
theorem dX9_init_467 : decode cX9_init 467 = .ok (.aload_n 0, 1) := by decide +kernel
theorem dX9_init_468 : decode cX9_init 468 = .ok (.iconst 5, 1) := by decide +kernel
theorem dX9_init_469 : decode cX9_init 469 = .ok (.newarray .int, 2) := by decide +kernel
theorem dX9_init_471 : decode cX9_init 471 = .ok (.putfield 178, 3) := by decide +kernel
theorem dX9_init_474 : decode cX9_init 474 = .ok (.aload_n 0, 1) := by decide +kernel
theorem dX9_init_475 : decode cX9_init 475 = .ok (.bipush 20, 2) := by decide +kernel
theorem dX9_init_477 : decode cX9_init 477 = .ok (.newarray .int, 2) := by decide +kernel
theorem dX9_init_479 : decode cX9_init 479 = .ok (.putfield 181, 3) := by decide +kernel
theorem dX9_init_482 : decode cX9_init 482 = .ok (.aload_n 0, 1) := by decide +kernel
theorem dX9_init_483 : decode cX9_init 483 = .ok (.iconst 5, 1) := by decide +kernel
theorem dX9_init_484 : decode cX9_init 484 = .ok (.newarray .int, 2) := by decide +kernel
theorem dX9_init_486 : decode cX9_init 486 = .ok (.putfield 184, 3) := by decide +kernel
theorem dX9_init_489 : decode cX9_init 489 = .ok (.aload_n 0, 1) := by decide +kernel
theorem dX9_init_490 : decode cX9_init 490 = .ok (.iconst 5, 1) := by decide +kernel
theorem dX9_init_491 : decode cX9_init 491 = .ok (.newarray .int, 2) := by decide +kernel
theorem dX9_init_493 : decode cX9_init 493 = .ok (.putfield 187, 3) := by decide +kernel
theorem dX9_init_496 : decode cX9_init 496 = .ok (.aload_n 0, 1) := by decide +kernel
theorem dX9_init_497 : decode cX9_init 497 = .ok (.bipush 10, 2) := by decide +kernel
theorem dX9_init_499 : decode cX9_init 499 = .ok (.newarray .int, 2) := by decide +kernel
theorem dX9_init_501 : decode cX9_init 501 = .ok (.putfield 190, 3) := by decide +kernel
theorem dX9_init_504 : decode cX9_init 504 = .ok (.aload_n 0, 1) := by decide +kernel
theorem dX9_init_505 : decode cX9_init 505 = .ok (.bipush 10, 2) := by decide +kernel
theorem dX9_init_507 : decode cX9_init 507 = .ok (.newarray .int, 2) := by decide +kernel
theorem dX9_init_509 : decode cX9_init 509 = .ok (.putfield 193, 3) := by decide +kernel
theorem dX9_init_512 : decode cX9_init 512 = .ok (.aload_n 0, 1) := by decide +kernel
theorem dX9_init_513 : decode cX9_init 513 = .ok (.bipush 8, 2) := by decide +kernel
theorem dX9_init_515 : decode cX9_init 515 = .ok (.newarray .int, 2) := by decide +kernel
theorem dX9_init_517 : decode cX9_init 517 = .ok (.putfield 196, 3) := by decide +kernel
theorem dX9_init_520 : decode cX9_init 520 = .ok (.aload_n 0, 1) := by decide +kernel
theorem dX9_init_521 : decode cX9_init 521 = .ok (.bipush 8, 2) := by decide +kernel
theorem dX9_init_523 : decode cX9_init 523 = .ok (.newarray .int, 2) := by decide +kernel
theorem dX9_init_525 : decode cX9_init 525 = .ok (.putfield 199, 3) := by decide +kernel
theorem dX9_init_528 : decode cX9_init 528 = .ok (.aload_n 0, 1) := by decide +kernel
theorem dX9_init_529 : decode cX9_init 529 = .ok (.iconst 5, 1) := by decide +kernel
theorem dX9_init_530 : decode cX9_init 530 = .ok (.newarray .boolean, 2) := by decide +kernel
theorem dX9_init_532 : decode cX9_init 532 = .ok (.putfield 202, 3) := by decide +kernel
theorem dX9_init_535 : decode cX9_init 535 = .ok (.aload_n 0, 1) := by decide +kernel
theorem dX9_init_536 : decode cX9_init 536 = .ok (.iconst 0, 1) := by decide +kernel
theorem dX9_init_537 : decode cX9_init 537 = .ok (.putfield 205, 3) := by decide +kernel
theorem dX9_init_540 : decode cX9_init 540 = .ok (.aload_n 0, 1) := by decide +kernel
theorem dX9_init_541 : decode cX9_init 541 = .ok (.bipush 20, 2) := by decide +kernel
theorem dX9_init_543 : decode cX9_init 543 = .ok (.newarray .int, 2) := by decide +kernel
theorem dX9_init_545 : decode cX9_init 545 = .ok (.putfield 208, 3) := by decide +kernel
theorem dX9_init_548 : decode cX9_init 548 = .ok (.aload_n 0, 1) := by decide +kernel
theorem dX9_init_549 : decode cX9_init 549 = .ok (.bipush 6, 2) := by decide +kernel
theorem dX9_init_551 : decode cX9_init 551 = .ok (.newarray .int, 2) := by decide +kernel
theorem dX9_init_553 : decode cX9_init 553 = .ok (.dup, 1) := by decide +kernel
theorem dX9_init_554 : decode cX9_init 554 = .ok (.iconst 0, 1) := by decide +kernel
theorem dX9_init_555 : decode cX9_init 555 = .ok (.iconst (-1), 1) := by decide +kernel
theorem dX9_init_556 : decode cX9_init 556 = .ok (.iastore, 1) := by decide +kernel
theorem dX9_init_557 : decode cX9_init 557 = .ok (.dup, 1) := by decide +kernel
theorem dX9_init_558 : decode cX9_init 558 = .ok (.iconst 1, 1) := by decide +kernel
theorem dX9_init_559 : decode cX9_init 559 = .ok (.iconst (-1), 1) := by decide +kernel
theorem dX9_init_560 : decode cX9_init 560 = .ok (.iastore, 1) := by decide +kernel
theorem dX9_init_561 : decode cX9_init 561 = .ok (.dup, 1) := by decide +kernel
theorem dX9_init_562 : decode cX9_init 562 = .ok (.iconst 2, 1) := by decide +kernel
theorem dX9_init_563 : decode cX9_init 563 = .ok (.iconst (-1), 1) := by decide +kernel
theorem dX9_init_564 : decode cX9_init 564 = .ok (.iastore, 1) := by decide +kernel
theorem dX9_init_565 : decode cX9_init 565 = .ok (.dup, 1) := by decide +kernel
theorem dX9_init_566 : decode cX9_init 566 = .ok (.iconst 3, 1) := by decide +kernel
theorem dX9_init_567 : decode cX9_init 567 = .ok (.iconst (-1), 1) := by decide +kernel
theorem dX9_init_568 : decode cX9_init 568 = .ok (.iastore, 1) := by decide +kernel
theorem dX9_init_569 : decode cX9_init 569 = .ok (.dup, 1) := by decide +kernel
theorem dX9_init_570 : decode cX9_init 570 = .ok (.iconst 4, 1) := by decide +kernel
theorem dX9_init_571 : decode cX9_init 571 = .ok (.iconst (-1), 1) := by decide +kernel
theorem dX9_init_572 : decode cX9_init 572 = .ok (.iastore, 1) := by decide +kernel
theorem dX9_init_573 : decode cX9_init 573 = .ok (.dup, 1) := by decide +kernel
theorem dX9_init_574 : decode cX9_init 574 = .ok (.iconst 5, 1) := by decide +kernel
theorem dX9_init_575 : decode cX9_init 575 = .ok (.iconst (-1), 1) := by decide +kernel
theorem dX9_init_576 : decode cX9_init 576 = .ok (.iastore, 1) := by decide +kernel
theorem dX9_init_577 : decode cX9_init 577 = .ok (.putfield 211, 3) := by decide +kernel
theorem dX9_init_580 : decode cX9_init 580 = .ok (.aload_n 0, 1) := by decide +kernel
theorem dX9_init_581 : decode cX9_init 581 = .ok (.bipush 6, 2) := by decide +kernel
theorem dX9_init_583 : decode cX9_init 583 = .ok (.newarray .int, 2) := by decide +kernel
theorem dX9_init_585 : decode cX9_init 585 = .ok (.putfield 214, 3) := by decide +kernel
theorem dX9_init_588 : decode cX9_init 588 = .ok (.aload_n 0, 1) := by decide +kernel
theorem dX9_init_589 : decode cX9_init 589 = .ok (.sipush 360, 3) := by decide +kernel
theorem dX9_init_592 : decode cX9_init 592 = .ok (.newarray .long, 2) := by decide +kernel
theorem dX9_init_594 : decode cX9_init 594 = .ok (.putfield 217, 3) := by decide +kernel
theorem dX9_init_597 : decode cX9_init 597 = .ok (.aload_n 0, 1) := by decide +kernel
theorem dX9_init_598 : decode cX9_init 598 = .ok (.bipush 60, 2) := by decide +kernel
theorem dX9_init_600 : decode cX9_init 600 = .ok (.newarray .long, 2) := by decide +kernel
theorem dX9_init_602 : decode cX9_init 602 = .ok (.putfield 221, 3) := by decide +kernel
theorem dX9_init_605 : decode cX9_init 605 = .ok (.return_, 1) := by decide +kernel
theorem dX9_in_0 : decode cX9_in 0 = .ok (.iload_n 1, 1) := by decide +kernel
theorem dX9_in_1 : decode cX9_in 1 = .ok (.iload_n 2, 1) := by decide +kernel
theorem dX9_in_2 : decode cX9_in 2 = .ok (.if_icmp .lt 12, 3) := by decide +kernel
theorem dX9_in_5 : decode cX9_in 5 = .ok (.iload_n 1, 1) := by decide +kernel
theorem dX9_in_6 : decode cX9_in 6 = .ok (.iload_n 3, 1) := by decide +kernel
theorem dX9_in_7 : decode cX9_in 7 = .ok (.if_icmp .gt 7, 3) := by decide +kernel
theorem dX9_in_10 : decode cX9_in 10 = .ok (.iconst 1, 1) := by decide +kernel
theorem dX9_in_11 : decode cX9_in 11 = .ok (.goto 4, 3) := by decide +kernel
theorem dX9_in_14 : decode cX9_in 14 = .ok (.iconst 0, 1) := by decide +kernel
theorem dX9_in_15 : decode cX9_in 15 = .ok (.ireturn, 1) := by decide +kernel
theorem dX9_has_0 : decode cX9_has 0 = .ok (.iload_n 1, 1) := by decide +kernel
theorem dX9_has_1 : decode cX9_has 1 = .ok (.iload_n 2, 1) := by decide +kernel
theorem dX9_has_2 : decode cX9_has 2 = .ok (.ishr, 1) := by decide +kernel
theorem dX9_has_3 : decode cX9_has 3 = .ok (.iconst 1, 1) := by decide +kernel
theorem dX9_has_4 : decode cX9_has 4 = .ok (.iand, 1) := by decide +kernel
theorem dX9_has_5 : decode cX9_has 5 = .ok (.iconst 1, 1) := by decide +kernel
theorem dX9_has_6 : decode cX9_has 6 = .ok (.if_icmp .ne 7, 3) := by decide +kernel
theorem dX9_has_9 : decode cX9_has 9 = .ok (.iconst 1, 1) := by decide +kernel
theorem dX9_has_10 : decode cX9_has 10 = .ok (.goto 4, 3) := by decide +kernel
theorem dX9_has_13 : decode cX9_has 13 = .ok (.iconst 0, 1) := by decide +kernel
theorem dX9_has_14 : decode cX9_has 14 = .ok (.ireturn, 1) := by decide +kernel
theorem dX9_least0_0 : decode cX9_least0 0 = .ok (.iload_n 1, 1) := by decide +kernel
theorem dX9_least0_1 : decode cX9_least0 1 = .ok (.ifCond .ge 7, 3) := by decide +kernel
theorem dX9_least0_4 : decode cX9_least0 4 = .ok (.iconst 0, 1) := by decide +kernel
theorem dX9_least0_5 : decode cX9_least0 5 = .ok (.goto 4, 3) := by decide +kernel
theorem dX9_least0_8 : decode cX9_least0 8 = .ok (.iload_n 1, 1) := by decide +kernel
theorem dX9_least0_9 : decode cX9_least0 9 = .ok (.ireturn, 1) := by decide +kernel
theorem dX9_apart_0 : decode cX9_apart 0 = .ok (.iload_n 1, 1) := by decide +kernel
theorem dX9_apart_1 : decode cX9_apart 1 = .ok (.iload_n 2, 1) := by decide +kernel
theorem dX9_apart_2 : decode cX9_apart 2 = .ok (.if_icmp .le 9, 3) := by decide +kernel
theorem dX9_apart_5 : decode cX9_apart 5 = .ok (.iload_n 1, 1) := by decide +kernel
theorem dX9_apart_6 : decode cX9_apart 6 = .ok (.iload_n 2, 1) := by decide +kernel
theorem dX9_apart_7 : decode cX9_apart 7 = .ok (.isub, 1) := by decide +kernel
theorem dX9_apart_8 : decode cX9_apart 8 = .ok (.goto 6, 3) := by decide +kernel
theorem dX9_apart_11 : decode cX9_apart 11 = .ok (.iload_n 2, 1) := by decide +kernel
theorem dX9_apart_12 : decode cX9_apart 12 = .ok (.iload_n 1, 1) := by decide +kernel
theorem dX9_apart_13 : decode cX9_apart 13 = .ok (.isub, 1) := by decide +kernel
theorem dX9_apart_14 : decode cX9_apart 14 = .ok (.ireturn, 1) := by decide +kernel
theorem dX9_isCell_0 : decode cX9_isCell 0 = .ok (.aload_n 0, 1) := by decide +kernel
theorem dX9_isCell_1 : decode cX9_isCell 1 = .ok (.iload_n 1, 1) := by decide +kernel
theorem dX9_isCell_2 : decode cX9_isCell 2 = .ok (.iconst 0, 1) := by decide +kernel
theorem dX9_isCell_3 : decode cX9_isCell 3 = .ok (.bipush 15, 2) := by decide +kernel
theorem dX9_isCell_5 : decode cX9_isCell 5 = .ok (.invokevirtual 224, 3) := by decide +kernel
theorem dX9_isCell_8 : decode cX9_isCell 8 = .ok (.ireturn, 1) := by decide +kernel
theorem dX9_isWalker_0 : decode cX9_isWalker 0 = .ok (.aload_n 0, 1) := by decide +kernel
theorem dX9_isWalker_1 : decode cX9_isWalker 1 = .ok (.iload_n 1, 1) := by decide +kernel
theorem dX9_isWalker_2 : decode cX9_isWalker 2 = .ok (.iconst 0, 1) := by decide +kernel
theorem dX9_isWalker_3 : decode cX9_isWalker 3 = .ok (.aload_n 0, 1) := by decide +kernel
theorem dX9_isWalker_4 : decode cX9_isWalker 4 = .ok (.getfield 7, 3) := by decide +kernel
theorem dX9_isWalker_7 : decode cX9_isWalker 7 = .ok (.iconst 1, 1) := by decide +kernel
theorem dX9_isWalker_8 : decode cX9_isWalker 8 = .ok (.isub, 1) := by decide +kernel
theorem dX9_isWalker_9 : decode cX9_isWalker 9 = .ok (.invokevirtual 224, 3) := by decide +kernel
theorem dX9_isWalker_12 : decode cX9_isWalker 12 = .ok (.ireturn, 1) := by decide +kernel
theorem dX9_isStrength_0 : decode cX9_isStrength 0 = .ok (.aload_n 0, 1) := by decide +kernel
theorem dX9_isStrength_1 : decode cX9_isStrength 1 = .ok (.iload_n 1, 1) := by decide +kernel
theorem dX9_isStrength_2 : decode cX9_isStrength 2 = .ok (.iconst 0, 1) := by decide +kernel
theorem dX9_isStrength_3 : decode cX9_isStrength 3 = .ok (.bipush 99, 2) := by decide +kernel
theorem dX9_isStrength_5 : decode cX9_isStrength 5 = .ok (.invokevirtual 224, 3) := by decide +kernel
theorem dX9_isStrength_8 : decode cX9_isStrength 8 = .ok (.ireturn, 1) := by decide +kernel
theorem dX9_isMinutes_0 : decode cX9_isMinutes 0 = .ok (.aload_n 0, 1) := by decide +kernel
theorem dX9_isMinutes_1 : decode cX9_isMinutes 1 = .ok (.iload_n 1, 1) := by decide +kernel
theorem dX9_isMinutes_2 : decode cX9_isMinutes 2 = .ok (.iconst 0, 1) := by decide +kernel
theorem dX9_isMinutes_3 : decode cX9_isMinutes 3 = .ok (.bipush 60, 2) := by decide +kernel
theorem dX9_isMinutes_5 : decode cX9_isMinutes 5 = .ok (.invokevirtual 224, 3) := by decide +kernel
theorem dX9_isMinutes_8 : decode cX9_isMinutes 8 = .ok (.ireturn, 1) := by decide +kernel
theorem dX9_walker_0 : decode cX9_walker 0 = .ok (.aload_n 0, 1) := by decide +kernel
theorem dX9_walker_1 : decode cX9_walker 1 = .ok (.iload_n 1, 1) := by decide +kernel
theorem dX9_walker_2 : decode cX9_walker 2 = .ok (.iconst 0, 1) := by decide +kernel
theorem dX9_walker_3 : decode cX9_walker 3 = .ok (.bipush 6, 2) := by decide +kernel
theorem dX9_walker_5 : decode cX9_walker 5 = .ok (.invokevirtual 224, 3) := by decide +kernel
theorem dX9_walker_8 : decode cX9_walker 8 = .ok (.ifCond .ne 5, 3) := by decide +kernel
theorem dX9_walker_11 : decode cX9_walker 11 = .ok (.iconst (-1), 1) := by decide +kernel
theorem dX9_walker_12 : decode cX9_walker 12 = .ok (.ireturn, 1) := by decide +kernel
theorem dX9_walker_13 : decode cX9_walker 13 = .ok (.aload_n 0, 1) := by decide +kernel
theorem dX9_walker_14 : decode cX9_walker 14 = .ok (.iload_n 2, 1) := by decide +kernel
theorem dX9_walker_15 : decode cX9_walker 15 = .ok (.iconst 0, 1) := by decide +kernel
theorem dX9_walker_16 : decode cX9_walker 16 = .ok (.bipush 9, 2) := by decide +kernel
theorem dX9_walker_18 : decode cX9_walker 18 = .ok (.invokevirtual 224, 3) := by decide +kernel
theorem dX9_walker_21 : decode cX9_walker 21 = .ok (.ifCond .eq 11, 3) := by decide +kernel
theorem dX9_walker_24 : decode cX9_walker 24 = .ok (.aload_n 0, 1) := by decide +kernel
theorem dX9_walker_25 : decode cX9_walker 25 = .ok (.iload_n 3, 1) := by decide +kernel
theorem dX9_walker_26 : decode cX9_walker 26 = .ok (.invokevirtual 228, 3) := by decide +kernel
theorem dX9_walker_29 : decode cX9_walker 29 = .ok (.ifCond .ne 6, 3) := by decide +kernel
theorem dX9_walker_32 : decode cX9_walker 32 = .ok (.bipush (-2), 2) := by decide +kernel
theorem dX9_walker_34 : decode cX9_walker 34 = .ok (.ireturn, 1) := by decide +kernel
theorem dX9_walker_35 : decode cX9_walker 35 = .ok (.aload_n 0, 1) := by decide +kernel
theorem dX9_walker_36 : decode cX9_walker 36 = .ok (.getfield 7, 3) := by decide +kernel
theorem dX9_walker_39 : decode cX9_walker 39 = .ok (.iconst 5, 1) := by decide +kernel
theorem dX9_walker_40 : decode cX9_walker 40 = .ok (.if_icmp .ne 6, 3) := by decide +kernel
theorem dX9_walker_43 : decode cX9_walker 43 = .ok (.bipush (-4), 2) := by decide +kernel
theorem dX9_walker_45 : decode cX9_walker 45 = .ok (.ireturn, 1) := by decide +kernel
theorem dX9_walker_46 : decode cX9_walker 46 = .ok (.aload_n 0, 1) := by decide +kernel
theorem dX9_walker_47 : decode cX9_walker 47 = .ok (.getfield 20, 3) := by decide +kernel
theorem dX9_walker_50 : decode cX9_walker 50 = .ok (.aload_n 0, 1) := by decide +kernel
theorem dX9_walker_51 : decode cX9_walker 51 = .ok (.getfield 7, 3) := by decide +kernel
theorem dX9_walker_54 : decode cX9_walker 54 = .ok (.iload_n 1, 1) := by decide +kernel
theorem dX9_walker_55 : decode cX9_walker 55 = .ok (.iastore, 1) := by decide +kernel
theorem dX9_walker_56 : decode cX9_walker 56 = .ok (.aload_n 0, 1) := by decide +kernel
theorem dX9_walker_57 : decode cX9_walker 57 = .ok (.getfield 23, 3) := by decide +kernel
theorem dX9_walker_60 : decode cX9_walker 60 = .ok (.aload_n 0, 1) := by decide +kernel
theorem dX9_walker_61 : decode cX9_walker 61 = .ok (.getfield 7, 3) := by decide +kernel
theorem dX9_walker_64 : decode cX9_walker 64 = .ok (.iload_n 2, 1) := by decide +kernel
theorem dX9_walker_65 : decode cX9_walker 65 = .ok (.iastore, 1) := by decide +kernel
theorem dX9_walker_66 : decode cX9_walker 66 = .ok (.aload_n 0, 1) := by decide +kernel
theorem dX9_walker_67 : decode cX9_walker 67 = .ok (.getfield 26, 3) := by decide +kernel
theorem dX9_walker_70 : decode cX9_walker 70 = .ok (.aload_n 0, 1) := by decide +kernel
theorem dX9_walker_71 : decode cX9_walker 71 = .ok (.getfield 7, 3) := by decide +kernel
theorem dX9_walker_74 : decode cX9_walker 74 = .ok (.iload_n 3, 1) := by decide +kernel
theorem dX9_walker_75 : decode cX9_walker 75 = .ok (.iastore, 1) := by decide +kernel
theorem dX9_walker_76 : decode cX9_walker 76 = .ok (.iconst 0, 1) := by decide +kernel
theorem dX9_walker_77 : decode cX9_walker 77 = .ok (.istore 4, 2) := by decide +kernel
theorem dX9_walker_79 : decode cX9_walker 79 = .ok (.iload 4, 2) := by decide +kernel
theorem dX9_walker_81 : decode cX9_walker 81 = .ok (.iconst 4, 1) := by decide +kernel
theorem dX9_walker_82 : decode cX9_walker 82 = .ok (.if_icmp .ge 24, 3) := by decide +kernel
theorem dX9_walker_85 : decode cX9_walker 85 = .ok (.aload_n 0, 1) := by decide +kernel
theorem dX9_walker_86 : decode cX9_walker 86 = .ok (.getfield 29, 3) := by decide +kernel
theorem dX9_walker_89 : decode cX9_walker 89 = .ok (.iconst 4, 1) := by decide +kernel
theorem dX9_walker_90 : decode cX9_walker 90 = .ok (.aload_n 0, 1) := by decide +kernel
theorem dX9_walker_91 : decode cX9_walker 91 = .ok (.getfield 7, 3) := by decide +kernel
theorem dX9_walker_94 : decode cX9_walker 94 = .ok (.imul, 1) := by decide +kernel
theorem dX9_walker_95 : decode cX9_walker 95 = .ok (.iload 4, 2) := by decide +kernel
theorem dX9_walker_97 : decode cX9_walker 97 = .ok (.iadd, 1) := by decide +kernel
theorem dX9_walker_98 : decode cX9_walker 98 = .ok (.iconst 0, 1) := by decide +kernel
theorem dX9_walker_99 : decode cX9_walker 99 = .ok (.iastore, 1) := by decide +kernel
theorem dX9_walker_100 : decode cX9_walker 100 = .ok (.iinc 4 1, 3) := by decide +kernel
theorem dX9_walker_103 : decode cX9_walker 103 = .ok (.goto (-24), 3) := by decide +kernel
theorem dX9_walker_106 : decode cX9_walker 106 = .ok (.aload_n 0, 1) := by decide +kernel
theorem dX9_walker_107 : decode cX9_walker 107 = .ok (.dup, 1) := by decide +kernel
theorem dX9_walker_108 : decode cX9_walker 108 = .ok (.getfield 7, 3) := by decide +kernel
theorem dX9_walker_111 : decode cX9_walker 111 = .ok (.iconst 1, 1) := by decide +kernel
theorem dX9_walker_112 : decode cX9_walker 112 = .ok (.iadd, 1) := by decide +kernel
theorem dX9_walker_113 : decode cX9_walker 113 = .ok (.putfield 7, 3) := by decide +kernel
theorem dX9_walker_116 : decode cX9_walker 116 = .ok (.aload_n 0, 1) := by decide +kernel
theorem dX9_walker_117 : decode cX9_walker 117 = .ok (.getfield 7, 3) := by decide +kernel
theorem dX9_walker_120 : decode cX9_walker 120 = .ok (.iconst 1, 1) := by decide +kernel
theorem dX9_walker_121 : decode cX9_walker 121 = .ok (.isub, 1) := by decide +kernel
theorem dX9_walker_122 : decode cX9_walker 122 = .ok (.ireturn, 1) := by decide +kernel
theorem dX9_set_0 : decode cX9_set 0 = .ok (.aload_n 0, 1) := by decide +kernel
theorem dX9_set_1 : decode cX9_set 1 = .ok (.iload_n 1, 1) := by decide +kernel
theorem dX9_set_2 : decode cX9_set 2 = .ok (.invokevirtual 232, 3) := by decide +kernel
theorem dX9_set_5 : decode cX9_set 5 = .ok (.ifCond .ne 5, 3) := by decide +kernel
theorem dX9_set_8 : decode cX9_set 8 = .ok (.iconst (-1), 1) := by decide +kernel
theorem dX9_set_9 : decode cX9_set 9 = .ok (.ireturn, 1) := by decide +kernel
theorem dX9_set_10 : decode cX9_set 10 = .ok (.aload_n 0, 1) := by decide +kernel
theorem dX9_set_11 : decode cX9_set 11 = .ok (.iload_n 2, 1) := by decide +kernel
theorem dX9_set_12 : decode cX9_set 12 = .ok (.invokevirtual 228, 3) := by decide +kernel
theorem dX9_set_15 : decode cX9_set 15 = .ok (.ifCond .ne 6, 3) := by decide +kernel
theorem dX9_set_18 : decode cX9_set 18 = .ok (.bipush (-2), 2) := by decide +kernel
theorem dX9_set_20 : decode cX9_set 20 = .ok (.ireturn, 1) := by decide +kernel
theorem dX9_set_21 : decode cX9_set 21 = .ok (.aload_n 0, 1) := by decide +kernel
theorem dX9_set_22 : decode cX9_set 22 = .ok (.getfield 16, 3) := by decide +kernel
theorem dX9_set_25 : decode cX9_set 25 = .ok (.iload_n 1, 1) := by decide +kernel
theorem dX9_set_26 : decode cX9_set 26 = .ok (.iaload, 1) := by decide +kernel
theorem dX9_set_27 : decode cX9_set 27 = .ok (.istore_n 3, 1) := by decide +kernel
theorem dX9_set_28 : decode cX9_set 28 = .ok (.aload_n 0, 1) := by decide +kernel
theorem dX9_set_29 : decode cX9_set 29 = .ok (.getfield 16, 3) := by decide +kernel
theorem dX9_set_32 : decode cX9_set 32 = .ok (.iload_n 1, 1) := by decide +kernel
theorem dX9_set_33 : decode cX9_set 33 = .ok (.iload_n 2, 1) := by decide +kernel
theorem dX9_set_34 : decode cX9_set 34 = .ok (.iastore, 1) := by decide +kernel
theorem dX9_set_35 : decode cX9_set 35 = .ok (.iload_n 3, 1) := by decide +kernel
theorem dX9_set_36 : decode cX9_set 36 = .ok (.ireturn, 1) := by decide +kernel
theorem dX9_weigh_0 : decode cX9_weigh 0 = .ok (.aload_n 0, 1) := by decide +kernel
theorem dX9_weigh_1 : decode cX9_weigh 1 = .ok (.iload_n 1, 1) := by decide +kernel
theorem dX9_weigh_2 : decode cX9_weigh 2 = .ok (.invokevirtual 235, 3) := by decide +kernel
theorem dX9_weigh_5 : decode cX9_weigh 5 = .ok (.ifCond .ne 5, 3) := by decide +kernel
theorem dX9_weigh_8 : decode cX9_weigh 8 = .ok (.iconst (-1), 1) := by decide +kernel
theorem dX9_weigh_9 : decode cX9_weigh 9 = .ok (.ireturn, 1) := by decide +kernel
theorem dX9_weigh_10 : decode cX9_weigh 10 = .ok (.aload_n 0, 1) := by decide +kernel
theorem dX9_weigh_11 : decode cX9_weigh 11 = .ok (.iload_n 2, 1) := by decide +kernel
theorem dX9_weigh_12 : decode cX9_weigh 12 = .ok (.invokevirtual 228, 3) := by decide +kernel
theorem dX9_weigh_15 : decode cX9_weigh 15 = .ok (.ifCond .ne 6, 3) := by decide +kernel
theorem dX9_weigh_18 : decode cX9_weigh 18 = .ok (.bipush (-2), 2) := by decide +kernel
theorem dX9_weigh_20 : decode cX9_weigh 20 = .ok (.ireturn, 1) := by decide +kernel
theorem dX9_weigh_21 : decode cX9_weigh 21 = .ok (.aload_n 0, 1) := by decide +kernel
theorem dX9_weigh_22 : decode cX9_weigh 22 = .ok (.getfield 26, 3) := by decide +kernel
theorem dX9_weigh_25 : decode cX9_weigh 25 = .ok (.iload_n 1, 1) := by decide +kernel
theorem dX9_weigh_26 : decode cX9_weigh 26 = .ok (.iaload, 1) := by decide +kernel
theorem dX9_weigh_27 : decode cX9_weigh 27 = .ok (.istore_n 3, 1) := by decide +kernel
theorem dX9_weigh_28 : decode cX9_weigh 28 = .ok (.aload_n 0, 1) := by decide +kernel
theorem dX9_weigh_29 : decode cX9_weigh 29 = .ok (.getfield 26, 3) := by decide +kernel
theorem dX9_weigh_32 : decode cX9_weigh 32 = .ok (.iload_n 1, 1) := by decide +kernel
theorem dX9_weigh_33 : decode cX9_weigh 33 = .ok (.iload_n 2, 1) := by decide +kernel
theorem dX9_weigh_34 : decode cX9_weigh 34 = .ok (.iastore, 1) := by decide +kernel
theorem dX9_weigh_35 : decode cX9_weigh 35 = .ok (.iload_n 3, 1) := by decide +kernel
theorem dX9_weigh_36 : decode cX9_weigh 36 = .ok (.ireturn, 1) := by decide +kernel
theorem dX9_line_0 : decode cX9_line 0 = .ok (.aload_n 0, 1) := by decide +kernel
theorem dX9_line_1 : decode cX9_line 1 = .ok (.iload_n 1, 1) := by decide +kernel
theorem dX9_line_2 : decode cX9_line 2 = .ok (.invokevirtual 235, 3) := by decide +kernel
theorem dX9_line_5 : decode cX9_line 5 = .ok (.ifCond .eq 13, 3) := by decide +kernel
theorem dX9_line_8 : decode cX9_line 8 = .ok (.aload_n 0, 1) := by decide +kernel
theorem dX9_line_9 : decode cX9_line 9 = .ok (.iload_n 2, 1) := by decide +kernel
theorem dX9_line_10 : decode cX9_line 10 = .ok (.iconst 0, 1) := by decide +kernel
theorem dX9_line_11 : decode cX9_line 11 = .ok (.iconst 3, 1) := by decide +kernel
theorem dX9_line_12 : decode cX9_line 12 = .ok (.invokevirtual 224, 3) := by decide +kernel
theorem dX9_line_15 : decode cX9_line 15 = .ok (.ifCond .ne 5, 3) := by decide +kernel
theorem dX9_line_18 : decode cX9_line 18 = .ok (.iconst (-1), 1) := by decide +kernel
theorem dX9_line_19 : decode cX9_line 19 = .ok (.ireturn, 1) := by decide +kernel
theorem dX9_line_20 : decode cX9_line 20 = .ok (.aload_n 0, 1) := by decide +kernel
theorem dX9_line_21 : decode cX9_line 21 = .ok (.iload_n 3, 1) := by decide +kernel
theorem dX9_line_22 : decode cX9_line 22 = .ok (.iconst 0, 1) := by decide +kernel
theorem dX9_line_23 : decode cX9_line 23 = .ok (.bipush 9, 2) := by decide +kernel
theorem dX9_line_25 : decode cX9_line 25 = .ok (.invokevirtual 224, 3) := by decide +kernel
theorem dX9_line_28 : decode cX9_line 28 = .ok (.ifCond .ne 6, 3) := by decide +kernel
theorem dX9_line_31 : decode cX9_line 31 = .ok (.bipush (-2), 2) := by decide +kernel
theorem dX9_line_33 : decode cX9_line 33 = .ok (.ireturn, 1) := by decide +kernel
theorem dX9_line_34 : decode cX9_line 34 = .ok (.aload_n 0, 1) := by decide +kernel
theorem dX9_line_35 : decode cX9_line 35 = .ok (.getfield 20, 3) := by decide +kernel
theorem dX9_line_38 : decode cX9_line 38 = .ok (.iload_n 1, 1) := by decide +kernel
theorem dX9_line_39 : decode cX9_line 39 = .ok (.iaload, 1) := by decide +kernel
theorem dX9_line_40 : decode cX9_line 40 = .ok (.bipush 6, 2) := by decide +kernel
theorem dX9_line_42 : decode cX9_line 42 = .ok (.if_icmp .eq 6, 3) := by decide +kernel
theorem dX9_line_45 : decode cX9_line 45 = .ok (.bipush (-3), 2) := by decide +kernel
theorem dX9_line_47 : decode cX9_line 47 = .ok (.ireturn, 1) := by decide +kernel
theorem dX9_line_48 : decode cX9_line 48 = .ok (.aload_n 0, 1) := by decide +kernel
theorem dX9_line_49 : decode cX9_line 49 = .ok (.getfield 29, 3) := by decide +kernel
theorem dX9_line_52 : decode cX9_line 52 = .ok (.iconst 4, 1) := by decide +kernel
theorem dX9_line_53 : decode cX9_line 53 = .ok (.iload_n 1, 1) := by decide +kernel
theorem dX9_line_54 : decode cX9_line 54 = .ok (.imul, 1) := by decide +kernel
theorem dX9_line_55 : decode cX9_line 55 = .ok (.iload_n 2, 1) := by decide +kernel
theorem dX9_line_56 : decode cX9_line 56 = .ok (.iadd, 1) := by decide +kernel
theorem dX9_line_57 : decode cX9_line 57 = .ok (.iaload, 1) := by decide +kernel
theorem dX9_line_58 : decode cX9_line 58 = .ok (.istore 4, 2) := by decide +kernel
theorem dX9_line_60 : decode cX9_line 60 = .ok (.aload_n 0, 1) := by decide +kernel
theorem dX9_line_61 : decode cX9_line 61 = .ok (.getfield 29, 3) := by decide +kernel
theorem dX9_line_64 : decode cX9_line 64 = .ok (.iconst 4, 1) := by decide +kernel
theorem dX9_line_65 : decode cX9_line 65 = .ok (.iload_n 1, 1) := by decide +kernel
theorem dX9_line_66 : decode cX9_line 66 = .ok (.imul, 1) := by decide +kernel
theorem dX9_line_67 : decode cX9_line 67 = .ok (.iload_n 2, 1) := by decide +kernel
theorem dX9_line_68 : decode cX9_line 68 = .ok (.iadd, 1) := by decide +kernel
theorem dX9_line_69 : decode cX9_line 69 = .ok (.iload_n 3, 1) := by decide +kernel
theorem dX9_line_70 : decode cX9_line 70 = .ok (.iastore, 1) := by decide +kernel
theorem dX9_line_71 : decode cX9_line 71 = .ok (.iload 4, 2) := by decide +kernel
theorem dX9_line_73 : decode cX9_line 73 = .ok (.ireturn, 1) := by decide +kernel
theorem dX9_far_0 : decode cX9_far 0 = .ok (.iload_n 1, 1) := by decide +kernel
theorem dX9_far_1 : decode cX9_far 1 = .ok (.iconst 4, 1) := by decide +kernel
theorem dX9_far_2 : decode cX9_far 2 = .ok (.idiv, 1) := by decide +kernel
theorem dX9_far_3 : decode cX9_far 3 = .ok (.iload_n 2, 1) := by decide +kernel
theorem dX9_far_4 : decode cX9_far 4 = .ok (.iconst 4, 1) := by decide +kernel
theorem dX9_far_5 : decode cX9_far 5 = .ok (.idiv, 1) := by decide +kernel
theorem dX9_far_6 : decode cX9_far 6 = .ok (.if_icmp .ne 14, 3) := by decide +kernel
theorem dX9_far_9 : decode cX9_far 9 = .ok (.aload_n 0, 1) := by decide +kernel
theorem dX9_far_10 : decode cX9_far 10 = .ok (.iload_n 1, 1) := by decide +kernel
theorem dX9_far_11 : decode cX9_far 11 = .ok (.iconst 4, 1) := by decide +kernel
theorem dX9_far_12 : decode cX9_far 12 = .ok (.irem, 1) := by decide +kernel
theorem dX9_far_13 : decode cX9_far 13 = .ok (.iload_n 2, 1) := by decide +kernel
theorem dX9_far_14 : decode cX9_far 14 = .ok (.iconst 4, 1) := by decide +kernel
theorem dX9_far_15 : decode cX9_far 15 = .ok (.irem, 1) := by decide +kernel
theorem dX9_far_16 : decode cX9_far 16 = .ok (.invokevirtual 238, 3) := by decide +kernel
theorem dX9_far_19 : decode cX9_far 19 = .ok (.ireturn, 1) := by decide +kernel
theorem dX9_far_20 : decode cX9_far 20 = .ok (.iload_n 1, 1) := by decide +kernel
theorem dX9_far_21 : decode cX9_far 21 = .ok (.iconst 4, 1) := by decide +kernel
theorem dX9_far_22 : decode cX9_far 22 = .ok (.irem, 1) := by decide +kernel
theorem dX9_far_23 : decode cX9_far 23 = .ok (.iload_n 2, 1) := by decide +kernel
theorem dX9_far_24 : decode cX9_far 24 = .ok (.iconst 4, 1) := by decide +kernel
theorem dX9_far_25 : decode cX9_far 25 = .ok (.irem, 1) := by decide +kernel
theorem dX9_far_26 : decode cX9_far 26 = .ok (.if_icmp .ne 16, 3) := by decide +kernel
theorem dX9_far_29 : decode cX9_far 29 = .ok (.aload_n 0, 1) := by decide +kernel
theorem dX9_far_30 : decode cX9_far 30 = .ok (.iload_n 1, 1) := by decide +kernel
theorem dX9_far_31 : decode cX9_far 31 = .ok (.iconst 4, 1) := by decide +kernel
theorem dX9_far_32 : decode cX9_far 32 = .ok (.idiv, 1) := by decide +kernel
theorem dX9_far_33 : decode cX9_far 33 = .ok (.iload_n 2, 1) := by decide +kernel
theorem dX9_far_34 : decode cX9_far 34 = .ok (.iconst 4, 1) := by decide +kernel
theorem dX9_far_35 : decode cX9_far 35 = .ok (.idiv, 1) := by decide +kernel
theorem dX9_far_36 : decode cX9_far 36 = .ok (.invokevirtual 238, 3) := by decide +kernel
theorem dX9_far_39 : decode cX9_far 39 = .ok (.goto 6, 3) := by decide +kernel
theorem dX9_far_42 : decode cX9_far 42 = .ok (.sipush 999, 3) := by decide +kernel
theorem dX9_far_45 : decode cX9_far 45 = .ok (.ireturn, 1) := by decide +kernel
theorem dX9_isNext_0 : decode cX9_isNext 0 = .ok (.aload_n 0, 1) := by decide +kernel
theorem dX9_isNext_1 : decode cX9_isNext 1 = .ok (.iload_n 1, 1) := by decide +kernel
theorem dX9_isNext_2 : decode cX9_isNext 2 = .ok (.iload_n 2, 1) := by decide +kernel
theorem dX9_isNext_3 : decode cX9_isNext 3 = .ok (.invokevirtual 242, 3) := by decide +kernel
theorem dX9_isNext_6 : decode cX9_isNext 6 = .ok (.iconst 1, 1) := by decide +kernel
theorem dX9_isNext_7 : decode cX9_isNext 7 = .ok (.if_icmp .ne 7, 3) := by decide +kernel
theorem dX9_isNext_10 : decode cX9_isNext 10 = .ok (.iconst 1, 1) := by decide +kernel
theorem dX9_isNext_11 : decode cX9_isNext 11 = .ok (.goto 4, 3) := by decide +kernel
theorem dX9_isNext_14 : decode cX9_isNext 14 = .ok (.iconst 0, 1) := by decide +kernel
theorem dX9_isNext_15 : decode cX9_isNext 15 = .ok (.ireturn, 1) := by decide +kernel
theorem dX9_stirs_0 : decode cX9_stirs 0 = .ok (.aload_n 0, 1) := by decide +kernel
theorem dX9_stirs_1 : decode cX9_stirs 1 = .ok (.getfield 16, 3) := by decide +kernel
theorem dX9_stirs_4 : decode cX9_stirs 4 = .ok (.iload_n 1, 1) := by decide +kernel
theorem dX9_stirs_5 : decode cX9_stirs 5 = .ok (.iaload, 1) := by decide +kernel
theorem dX9_stirs_6 : decode cX9_stirs 6 = .ok (.istore_n 3, 1) := by decide +kernel
theorem dX9_stirs_7 : decode cX9_stirs 7 = .ok (.aload_n 0, 1) := by decide +kernel
theorem dX9_stirs_8 : decode cX9_stirs 8 = .ok (.getfield 16, 3) := by decide +kernel
theorem dX9_stirs_11 : decode cX9_stirs 11 = .ok (.iload_n 1, 1) := by decide +kernel
theorem dX9_stirs_12 : decode cX9_stirs 12 = .ok (.aload_n 0, 1) := by decide +kernel
theorem dX9_stirs_13 : decode cX9_stirs 13 = .ok (.getfield 16, 3) := by decide +kernel
theorem dX9_stirs_16 : decode cX9_stirs 16 = .ok (.iload_n 2, 1) := by decide +kernel
theorem dX9_stirs_17 : decode cX9_stirs 17 = .ok (.iaload, 1) := by decide +kernel
theorem dX9_stirs_18 : decode cX9_stirs 18 = .ok (.iastore, 1) := by decide +kernel
theorem dX9_stirs_19 : decode cX9_stirs 19 = .ok (.aload_n 0, 1) := by decide +kernel
theorem dX9_stirs_20 : decode cX9_stirs 20 = .ok (.getfield 16, 3) := by decide +kernel
theorem dX9_stirs_23 : decode cX9_stirs 23 = .ok (.iload_n 2, 1) := by decide +kernel
theorem dX9_stirs_24 : decode cX9_stirs 24 = .ok (.iload_n 3, 1) := by decide +kernel
theorem dX9_stirs_25 : decode cX9_stirs 25 = .ok (.iastore, 1) := by decide +kernel
theorem dX9_stirs_26 : decode cX9_stirs 26 = .ok (.return_, 1) := by decide +kernel
theorem dX9_stir_0 : decode cX9_stir 0 = .ok (.aload_n 0, 1) := by decide +kernel
theorem dX9_stir_1 : decode cX9_stir 1 = .ok (.iload_n 1, 1) := by decide +kernel
theorem dX9_stir_2 : decode cX9_stir 2 = .ok (.invokevirtual 232, 3) := by decide +kernel
theorem dX9_stir_5 : decode cX9_stir 5 = .ok (.ifCond .eq 11, 3) := by decide +kernel
theorem dX9_stir_8 : decode cX9_stir 8 = .ok (.aload_n 0, 1) := by decide +kernel
theorem dX9_stir_9 : decode cX9_stir 9 = .ok (.iload_n 2, 1) := by decide +kernel
theorem dX9_stir_10 : decode cX9_stir 10 = .ok (.invokevirtual 232, 3) := by decide +kernel
theorem dX9_stir_13 : decode cX9_stir 13 = .ok (.ifCond .ne 5, 3) := by decide +kernel
theorem dX9_stir_16 : decode cX9_stir 16 = .ok (.iconst (-1), 1) := by decide +kernel
theorem dX9_stir_17 : decode cX9_stir 17 = .ok (.ireturn, 1) := by decide +kernel
theorem dX9_stir_18 : decode cX9_stir 18 = .ok (.aload_n 0, 1) := by decide +kernel
theorem dX9_stir_19 : decode cX9_stir 19 = .ok (.iload_n 1, 1) := by decide +kernel
theorem dX9_stir_20 : decode cX9_stir 20 = .ok (.iload_n 2, 1) := by decide +kernel
theorem dX9_stir_21 : decode cX9_stir 21 = .ok (.invokevirtual 245, 3) := by decide +kernel
theorem dX9_stir_24 : decode cX9_stir 24 = .ok (.ifCond .ne 6, 3) := by decide +kernel
theorem dX9_stir_27 : decode cX9_stir 27 = .ok (.bipush (-2), 2) := by decide +kernel
theorem dX9_stir_29 : decode cX9_stir 29 = .ok (.ireturn, 1) := by decide +kernel
theorem dX9_stir_30 : decode cX9_stir 30 = .ok (.aload_n 0, 1) := by decide +kernel
theorem dX9_stir_31 : decode cX9_stir 31 = .ok (.iload_n 1, 1) := by decide +kernel
theorem dX9_stir_32 : decode cX9_stir 32 = .ok (.iload_n 2, 1) := by decide +kernel
theorem dX9_stir_33 : decode cX9_stir 33 = .ok (.invokevirtual 249, 3) := by decide +kernel
theorem dX9_stir_36 : decode cX9_stir 36 = .ok (.aload_n 0, 1) := by decide +kernel
theorem dX9_stir_37 : decode cX9_stir 37 = .ok (.getfield 16, 3) := by decide +kernel
theorem dX9_stir_40 : decode cX9_stir 40 = .ok (.iload_n 1, 1) := by decide +kernel
theorem dX9_stir_41 : decode cX9_stir 41 = .ok (.iaload, 1) := by decide +kernel
theorem dX9_stir_42 : decode cX9_stir 42 = .ok (.ireturn, 1) := by decide +kernel
theorem dX9_feed_0 : decode cX9_feed 0 = .ok (.aload_n 0, 1) := by decide +kernel
theorem dX9_feed_1 : decode cX9_feed 1 = .ok (.iload_n 1, 1) := by decide +kernel
theorem dX9_feed_2 : decode cX9_feed 2 = .ok (.iconst 0, 1) := by decide +kernel
theorem dX9_feed_3 : decode cX9_feed 3 = .ok (.bipush 127, 2) := by decide +kernel
theorem dX9_feed_5 : decode cX9_feed 5 = .ok (.invokevirtual 224, 3) := by decide +kernel
theorem dX9_feed_8 : decode cX9_feed 8 = .ok (.ifCond .ne 6, 3) := by decide +kernel
theorem dX9_feed_11 : decode cX9_feed 11 = .ok (.bipush (-2), 2) := by decide +kernel
theorem dX9_feed_13 : decode cX9_feed 13 = .ok (.ireturn, 1) := by decide +kernel
theorem dX9_feed_14 : decode cX9_feed 14 = .ok (.aload_n 0, 1) := by decide +kernel
theorem dX9_feed_15 : decode cX9_feed 15 = .ok (.getfield 38, 3) := by decide +kernel
theorem dX9_feed_18 : decode cX9_feed 18 = .ok (.bipush 100, 2) := by decide +kernel
theorem dX9_feed_20 : decode cX9_feed 20 = .ok (.if_icmp .ne 6, 3) := by decide +kernel
theorem dX9_feed_23 : decode cX9_feed 23 = .ok (.bipush (-4), 2) := by decide +kernel
theorem dX9_feed_25 : decode cX9_feed 25 = .ok (.ireturn, 1) := by decide +kernel
theorem dX9_feed_26 : decode cX9_feed 26 = .ok (.aload_n 0, 1) := by decide +kernel
theorem dX9_feed_27 : decode cX9_feed 27 = .ok (.getfield 47, 3) := by decide +kernel
theorem dX9_feed_30 : decode cX9_feed 30 = .ok (.aload_n 0, 1) := by decide +kernel
theorem dX9_feed_31 : decode cX9_feed 31 = .ok (.getfield 38, 3) := by decide +kernel
theorem dX9_feed_34 : decode cX9_feed 34 = .ok (.iload_n 1, 1) := by decide +kernel
theorem dX9_feed_35 : decode cX9_feed 35 = .ok (.iastore, 1) := by decide +kernel
theorem dX9_feed_36 : decode cX9_feed 36 = .ok (.aload_n 0, 1) := by decide +kernel
theorem dX9_feed_37 : decode cX9_feed 37 = .ok (.dup, 1) := by decide +kernel
theorem dX9_feed_38 : decode cX9_feed 38 = .ok (.getfield 38, 3) := by decide +kernel
theorem dX9_feed_41 : decode cX9_feed 41 = .ok (.iconst 1, 1) := by decide +kernel
theorem dX9_feed_42 : decode cX9_feed 42 = .ok (.iadd, 1) := by decide +kernel
theorem dX9_feed_43 : decode cX9_feed 43 = .ok (.putfield 38, 3) := by decide +kernel
theorem dX9_feed_46 : decode cX9_feed 46 = .ok (.aload_n 0, 1) := by decide +kernel
theorem dX9_feed_47 : decode cX9_feed 47 = .ok (.getfield 38, 3) := by decide +kernel
theorem dX9_feed_50 : decode cX9_feed 50 = .ok (.ireturn, 1) := by decide +kernel
theorem dX9_next_0 : decode cX9_next 0 = .ok (.aload_n 0, 1) := by decide +kernel
theorem dX9_next_1 : decode cX9_next 1 = .ok (.getfield 41, 3) := by decide +kernel
theorem dX9_next_4 : decode cX9_next 4 = .ok (.aload_n 0, 1) := by decide +kernel
theorem dX9_next_5 : decode cX9_next 5 = .ok (.getfield 38, 3) := by decide +kernel
theorem dX9_next_8 : decode cX9_next 8 = .ok (.if_icmp .ge 15, 3) := by decide +kernel
theorem dX9_next_11 : decode cX9_next 11 = .ok (.aload_n 0, 1) := by decide +kernel
theorem dX9_next_12 : decode cX9_next 12 = .ok (.getfield 47, 3) := by decide +kernel
theorem dX9_next_15 : decode cX9_next 15 = .ok (.aload_n 0, 1) := by decide +kernel
theorem dX9_next_16 : decode cX9_next 16 = .ok (.getfield 41, 3) := by decide +kernel
theorem dX9_next_19 : decode cX9_next 19 = .ok (.iaload, 1) := by decide +kernel
theorem dX9_next_20 : decode cX9_next 20 = .ok (.goto 4, 3) := by decide +kernel
theorem dX9_next_23 : decode cX9_next 23 = .ok (.iconst (-1), 1) := by decide +kernel
theorem dX9_next_24 : decode cX9_next 24 = .ok (.ireturn, 1) := by decide +kernel
theorem dX9_takes_0 : decode cX9_takes 0 = .ok (.aload_n 0, 1) := by decide +kernel
theorem dX9_takes_1 : decode cX9_takes 1 = .ok (.invokevirtual 253, 3) := by decide +kernel
theorem dX9_takes_4 : decode cX9_takes 4 = .ok (.iload_n 1, 1) := by decide +kernel
theorem dX9_takes_5 : decode cX9_takes 5 = .ok (.if_icmp .eq 5, 3) := by decide +kernel
theorem dX9_takes_8 : decode cX9_takes 8 = .ok (.iconst 0, 1) := by decide +kernel
theorem dX9_takes_9 : decode cX9_takes 9 = .ok (.ireturn, 1) := by decide +kernel
theorem dX9_takes_10 : decode cX9_takes 10 = .ok (.aload_n 0, 1) := by decide +kernel
theorem dX9_takes_11 : decode cX9_takes 11 = .ok (.dup, 1) := by decide +kernel
theorem dX9_takes_12 : decode cX9_takes 12 = .ok (.getfield 41, 3) := by decide +kernel
theorem dX9_takes_15 : decode cX9_takes 15 = .ok (.iconst 1, 1) := by decide +kernel
theorem dX9_takes_16 : decode cX9_takes 16 = .ok (.iadd, 1) := by decide +kernel
theorem dX9_takes_17 : decode cX9_takes 17 = .ok (.putfield 41, 3) := by decide +kernel
theorem dX9_takes_20 : decode cX9_takes 20 = .ok (.iconst 1, 1) := by decide +kernel
theorem dX9_takes_21 : decode cX9_takes 21 = .ok (.ireturn, 1) := by decide +kernel
theorem dX9_takesWord_0 : decode cX9_takesWord 0 = .ok (.iconst 0, 1) := by decide +kernel
theorem dX9_takesWord_1 : decode cX9_takesWord 1 = .ok (.istore_n 3, 1) := by decide +kernel
theorem dX9_takesWord_2 : decode cX9_takesWord 2 = .ok (.iload_n 3, 1) := by decide +kernel
theorem dX9_takesWord_3 : decode cX9_takesWord 3 = .ok (.iload_n 2, 1) := by decide +kernel
theorem dX9_takesWord_4 : decode cX9_takesWord 4 = .ok (.if_icmp .ge 26, 3) := by decide +kernel
theorem dX9_takesWord_7 : decode cX9_takesWord 7 = .ok (.aload_n 0, 1) := by decide +kernel
theorem dX9_takesWord_8 : decode cX9_takesWord 8 = .ok (.aload_n 0, 1) := by decide +kernel
theorem dX9_takesWord_9 : decode cX9_takesWord 9 = .ok (.getfield 80, 3) := by decide +kernel
theorem dX9_takesWord_12 : decode cX9_takesWord 12 = .ok (.iload_n 1, 1) := by decide +kernel
theorem dX9_takesWord_13 : decode cX9_takesWord 13 = .ok (.iload_n 3, 1) := by decide +kernel
theorem dX9_takesWord_14 : decode cX9_takesWord 14 = .ok (.iadd, 1) := by decide +kernel
theorem dX9_takesWord_15 : decode cX9_takesWord 15 = .ok (.iaload, 1) := by decide +kernel
theorem dX9_takesWord_16 : decode cX9_takesWord 16 = .ok (.invokevirtual 257, 3) := by decide +kernel
theorem dX9_takesWord_19 : decode cX9_takesWord 19 = .ok (.ifCond .ne 5, 3) := by decide +kernel
theorem dX9_takesWord_22 : decode cX9_takesWord 22 = .ok (.iconst 0, 1) := by decide +kernel
theorem dX9_takesWord_23 : decode cX9_takesWord 23 = .ok (.ireturn, 1) := by decide +kernel
theorem dX9_takesWord_24 : decode cX9_takesWord 24 = .ok (.iinc 3 1, 3) := by decide +kernel
theorem dX9_takesWord_27 : decode cX9_takesWord 27 = .ok (.goto (-25), 3) := by decide +kernel
theorem dX9_takesWord_30 : decode cX9_takesWord 30 = .ok (.aload_n 0, 1) := by decide +kernel
theorem dX9_takesWord_31 : decode cX9_takesWord 31 = .ok (.bipush 32, 2) := by decide +kernel
theorem dX9_takesWord_33 : decode cX9_takesWord 33 = .ok (.invokevirtual 257, 3) := by decide +kernel
theorem dX9_takesWord_36 : decode cX9_takesWord 36 = .ok (.ireturn, 1) := by decide +kernel
theorem dX9_isDigit_0 : decode cX9_isDigit 0 = .ok (.aload_n 0, 1) := by decide +kernel
theorem dX9_isDigit_1 : decode cX9_isDigit 1 = .ok (.aload_n 0, 1) := by decide +kernel
theorem dX9_isDigit_2 : decode cX9_isDigit 2 = .ok (.invokevirtual 253, 3) := by decide +kernel
theorem dX9_isDigit_5 : decode cX9_isDigit 5 = .ok (.bipush 48, 2) := by decide +kernel
theorem dX9_isDigit_7 : decode cX9_isDigit 7 = .ok (.bipush 57, 2) := by decide +kernel
theorem dX9_isDigit_9 : decode cX9_isDigit 9 = .ok (.invokevirtual 224, 3) := by decide +kernel
theorem dX9_isDigit_12 : decode cX9_isDigit 12 = .ok (.ireturn, 1) := by decide +kernel
theorem dX9_takesNumber_0 : decode cX9_takesNumber 0 = .ok (.aload_n 0, 1) := by decide +kernel
theorem dX9_takesNumber_1 : decode cX9_takesNumber 1 = .ok (.invokevirtual 260, 3) := by decide +kernel
theorem dX9_takesNumber_4 : decode cX9_takesNumber 4 = .ok (.ifCond .ne 5, 3) := by decide +kernel
theorem dX9_takesNumber_7 : decode cX9_takesNumber 7 = .ok (.iconst 0, 1) := by decide +kernel
theorem dX9_takesNumber_8 : decode cX9_takesNumber 8 = .ok (.ireturn, 1) := by decide +kernel
theorem dX9_takesNumber_9 : decode cX9_takesNumber 9 = .ok (.aload_n 0, 1) := by decide +kernel
theorem dX9_takesNumber_10 : decode cX9_takesNumber 10 = .ok (.iconst 0, 1) := by decide +kernel
theorem dX9_takesNumber_11 : decode cX9_takesNumber 11 = .ok (.putfield 44, 3) := by decide +kernel
theorem dX9_takesNumber_14 : decode cX9_takesNumber 14 = .ok (.iconst 0, 1) := by decide +kernel
theorem dX9_takesNumber_15 : decode cX9_takesNumber 15 = .ok (.istore_n 1, 1) := by decide +kernel
theorem dX9_takesNumber_16 : decode cX9_takesNumber 16 = .ok (.iload_n 1, 1) := by decide +kernel
theorem dX9_takesNumber_17 : decode cX9_takesNumber 17 = .ok (.iconst 2, 1) := by decide +kernel
theorem dX9_takesNumber_18 : decode cX9_takesNumber 18 = .ok (.if_icmp .ge 45, 3) := by decide +kernel
theorem dX9_takesNumber_21 : decode cX9_takesNumber 21 = .ok (.aload_n 0, 1) := by decide +kernel
theorem dX9_takesNumber_22 : decode cX9_takesNumber 22 = .ok (.invokevirtual 260, 3) := by decide +kernel
theorem dX9_takesNumber_25 : decode cX9_takesNumber 25 = .ok (.ifCond .eq 38, 3) := by decide +kernel
theorem dX9_takesNumber_28 : decode cX9_takesNumber 28 = .ok (.aload_n 0, 1) := by decide +kernel
theorem dX9_takesNumber_29 : decode cX9_takesNumber 29 = .ok (.bipush 10, 2) := by decide +kernel
theorem dX9_takesNumber_31 : decode cX9_takesNumber 31 = .ok (.aload_n 0, 1) := by decide +kernel
theorem dX9_takesNumber_32 : decode cX9_takesNumber 32 = .ok (.getfield 44, 3) := by decide +kernel
theorem dX9_takesNumber_35 : decode cX9_takesNumber 35 = .ok (.imul, 1) := by decide +kernel
theorem dX9_takesNumber_36 : decode cX9_takesNumber 36 = .ok (.aload_n 0, 1) := by decide +kernel
theorem dX9_takesNumber_37 : decode cX9_takesNumber 37 = .ok (.invokevirtual 253, 3) := by decide +kernel
theorem dX9_takesNumber_40 : decode cX9_takesNumber 40 = .ok (.iadd, 1) := by decide +kernel
theorem dX9_takesNumber_41 : decode cX9_takesNumber 41 = .ok (.bipush 48, 2) := by decide +kernel
theorem dX9_takesNumber_43 : decode cX9_takesNumber 43 = .ok (.isub, 1) := by decide +kernel
theorem dX9_takesNumber_44 : decode cX9_takesNumber 44 = .ok (.putfield 44, 3) := by decide +kernel
theorem dX9_takesNumber_47 : decode cX9_takesNumber 47 = .ok (.aload_n 0, 1) := by decide +kernel
theorem dX9_takesNumber_48 : decode cX9_takesNumber 48 = .ok (.dup, 1) := by decide +kernel
theorem dX9_takesNumber_49 : decode cX9_takesNumber 49 = .ok (.getfield 41, 3) := by decide +kernel
theorem dX9_takesNumber_52 : decode cX9_takesNumber 52 = .ok (.iconst 1, 1) := by decide +kernel
theorem dX9_takesNumber_53 : decode cX9_takesNumber 53 = .ok (.iadd, 1) := by decide +kernel
theorem dX9_takesNumber_54 : decode cX9_takesNumber 54 = .ok (.putfield 41, 3) := by decide +kernel
theorem dX9_takesNumber_57 : decode cX9_takesNumber 57 = .ok (.iinc 1 1, 3) := by decide +kernel
theorem dX9_takesNumber_60 : decode cX9_takesNumber 60 = .ok (.goto (-44), 3) := by decide +kernel
theorem dX9_takesNumber_63 : decode cX9_takesNumber 63 = .ok (.iconst 1, 1) := by decide +kernel
theorem dX9_takesNumber_64 : decode cX9_takesNumber 64 = .ok (.ireturn, 1) := by decide +kernel
theorem dX9_emits_0 : decode cX9_emits 0 = .ok (.aload_n 0, 1) := by decide +kernel
theorem dX9_emits_1 : decode cX9_emits 1 = .ok (.getfield 65, 3) := by decide +kernel
theorem dX9_emits_4 : decode cX9_emits 4 = .ok (.aload_n 0, 1) := by decide +kernel
theorem dX9_emits_5 : decode cX9_emits 5 = .ok (.getfield 71, 3) := by decide +kernel
theorem dX9_emits_8 : decode cX9_emits 8 = .ok (.iload_n 1, 1) := by decide +kernel
theorem dX9_emits_9 : decode cX9_emits 9 = .ok (.iastore, 1) := by decide +kernel
theorem dX9_emits_10 : decode cX9_emits 10 = .ok (.aload_n 0, 1) := by decide +kernel
theorem dX9_emits_11 : decode cX9_emits 11 = .ok (.dup, 1) := by decide +kernel
theorem dX9_emits_12 : decode cX9_emits 12 = .ok (.getfield 71, 3) := by decide +kernel
theorem dX9_emits_15 : decode cX9_emits 15 = .ok (.iconst 1, 1) := by decide +kernel
theorem dX9_emits_16 : decode cX9_emits 16 = .ok (.iadd, 1) := by decide +kernel
theorem dX9_emits_17 : decode cX9_emits 17 = .ok (.putfield 71, 3) := by decide +kernel
theorem dX9_emits_20 : decode cX9_emits 20 = .ok (.return_, 1) := by decide +kernel
theorem dX9_whole_0 : decode cX9_whole 0 = .ok (.aload_n 0, 1) := by decide +kernel
theorem dX9_whole_1 : decode cX9_whole 1 = .ok (.getfield 74, 3) := by decide +kernel
theorem dX9_whole_4 : decode cX9_whole 4 = .ok (.ifCond .le 48, 3) := by decide +kernel
theorem dX9_whole_7 : decode cX9_whole 7 = .ok (.aload_n 0, 1) := by decide +kernel
theorem dX9_whole_8 : decode cX9_whole 8 = .ok (.getfield 68, 3) := by decide +kernel
theorem dX9_whole_11 : decode cX9_whole 11 = .ok (.aload_n 0, 1) := by decide +kernel
theorem dX9_whole_12 : decode cX9_whole 12 = .ok (.getfield 74, 3) := by decide +kernel
theorem dX9_whole_15 : decode cX9_whole 15 = .ok (.iconst 1, 1) := by decide +kernel
theorem dX9_whole_16 : decode cX9_whole 16 = .ok (.isub, 1) := by decide +kernel
theorem dX9_whole_17 : decode cX9_whole 17 = .ok (.iaload, 1) := by decide +kernel
theorem dX9_whole_18 : decode cX9_whole 18 = .ok (.bipush 33, 2) := by decide +kernel
theorem dX9_whole_20 : decode cX9_whole 20 = .ok (.if_icmp .ne 32, 3) := by decide +kernel
theorem dX9_whole_23 : decode cX9_whole 23 = .ok (.aload_n 0, 1) := by decide +kernel
theorem dX9_whole_24 : decode cX9_whole 24 = .ok (.bipush (-33), 2) := by decide +kernel
theorem dX9_whole_26 : decode cX9_whole 26 = .ok (.invokevirtual 264, 3) := by decide +kernel
theorem dX9_whole_29 : decode cX9_whole 29 = .ok (.aload_n 0, 1) := by decide +kernel
theorem dX9_whole_30 : decode cX9_whole 30 = .ok (.dup, 1) := by decide +kernel
theorem dX9_whole_31 : decode cX9_whole 31 = .ok (.getfield 74, 3) := by decide +kernel
theorem dX9_whole_34 : decode cX9_whole 34 = .ok (.iconst 1, 1) := by decide +kernel
theorem dX9_whole_35 : decode cX9_whole 35 = .ok (.isub, 1) := by decide +kernel
theorem dX9_whole_36 : decode cX9_whole 36 = .ok (.putfield 74, 3) := by decide +kernel
theorem dX9_whole_39 : decode cX9_whole 39 = .ok (.aload_n 0, 1) := by decide +kernel
theorem dX9_whole_40 : decode cX9_whole 40 = .ok (.dup, 1) := by decide +kernel
theorem dX9_whole_41 : decode cX9_whole 41 = .ok (.getfield 77, 3) := by decide +kernel
theorem dX9_whole_44 : decode cX9_whole 44 = .ok (.iconst 1, 1) := by decide +kernel
theorem dX9_whole_45 : decode cX9_whole 45 = .ok (.isub, 1) := by decide +kernel
theorem dX9_whole_46 : decode cX9_whole 46 = .ok (.putfield 77, 3) := by decide +kernel
theorem dX9_whole_49 : decode cX9_whole 49 = .ok (.goto (-49), 3) := by decide +kernel
theorem dX9_whole_52 : decode cX9_whole 52 = .ok (.return_, 1) := by decide +kernel
theorem dX9_settle_0 : decode cX9_settle 0 = .ok (.aload_n 0, 1) := by decide +kernel
theorem dX9_settle_1 : decode cX9_settle 1 = .ok (.getfield 74, 3) := by decide +kernel
theorem dX9_settle_4 : decode cX9_settle 4 = .ok (.ifCond .le 68, 3) := by decide +kernel
theorem dX9_settle_7 : decode cX9_settle 7 = .ok (.aload_n 0, 1) := by decide +kernel
theorem dX9_settle_8 : decode cX9_settle 8 = .ok (.getfield 68, 3) := by decide +kernel
theorem dX9_settle_11 : decode cX9_settle 11 = .ok (.aload_n 0, 1) := by decide +kernel
theorem dX9_settle_12 : decode cX9_settle 12 = .ok (.getfield 74, 3) := by decide +kernel
theorem dX9_settle_15 : decode cX9_settle 15 = .ok (.iconst 1, 1) := by decide +kernel
theorem dX9_settle_16 : decode cX9_settle 16 = .ok (.isub, 1) := by decide +kernel
theorem dX9_settle_17 : decode cX9_settle 17 = .ok (.iaload, 1) := by decide +kernel
theorem dX9_settle_18 : decode cX9_settle 18 = .ok (.bipush 38, 2) := by decide +kernel
theorem dX9_settle_20 : decode cX9_settle 20 = .ok (.if_icmp .eq 25, 3) := by decide +kernel
theorem dX9_settle_23 : decode cX9_settle 23 = .ok (.aload_n 0, 1) := by decide +kernel
theorem dX9_settle_24 : decode cX9_settle 24 = .ok (.getfield 68, 3) := by decide +kernel
theorem dX9_settle_27 : decode cX9_settle 27 = .ok (.aload_n 0, 1) := by decide +kernel
theorem dX9_settle_28 : decode cX9_settle 28 = .ok (.getfield 74, 3) := by decide +kernel
theorem dX9_settle_31 : decode cX9_settle 31 = .ok (.iconst 1, 1) := by decide +kernel
theorem dX9_settle_32 : decode cX9_settle 32 = .ok (.isub, 1) := by decide +kernel
theorem dX9_settle_33 : decode cX9_settle 33 = .ok (.iaload, 1) := by decide +kernel
theorem dX9_settle_34 : decode cX9_settle 34 = .ok (.bipush 124, 2) := by decide +kernel
theorem dX9_settle_36 : decode cX9_settle 36 = .ok (.if_icmp .ne 36, 3) := by decide +kernel
theorem dX9_settle_39 : decode cX9_settle 39 = .ok (.iload_n 1, 1) := by decide +kernel
theorem dX9_settle_40 : decode cX9_settle 40 = .ok (.bipush 38, 2) := by decide +kernel
theorem dX9_settle_42 : decode cX9_settle 42 = .ok (.if_icmp .eq 30, 3) := by decide +kernel
theorem dX9_settle_45 : decode cX9_settle 45 = .ok (.aload_n 0, 1) := by decide +kernel
theorem dX9_settle_46 : decode cX9_settle 46 = .ok (.dup, 1) := by decide +kernel
theorem dX9_settle_47 : decode cX9_settle 47 = .ok (.getfield 74, 3) := by decide +kernel
theorem dX9_settle_50 : decode cX9_settle 50 = .ok (.iconst 1, 1) := by decide +kernel
theorem dX9_settle_51 : decode cX9_settle 51 = .ok (.isub, 1) := by decide +kernel
theorem dX9_settle_52 : decode cX9_settle 52 = .ok (.putfield 74, 3) := by decide +kernel
theorem dX9_settle_55 : decode cX9_settle 55 = .ok (.aload_n 0, 1) := by decide +kernel
theorem dX9_settle_56 : decode cX9_settle 56 = .ok (.aload_n 0, 1) := by decide +kernel
theorem dX9_settle_57 : decode cX9_settle 57 = .ok (.getfield 68, 3) := by decide +kernel
theorem dX9_settle_60 : decode cX9_settle 60 = .ok (.aload_n 0, 1) := by decide +kernel
theorem dX9_settle_61 : decode cX9_settle 61 = .ok (.getfield 74, 3) := by decide +kernel
theorem dX9_settle_64 : decode cX9_settle 64 = .ok (.iaload, 1) := by decide +kernel
theorem dX9_settle_65 : decode cX9_settle 65 = .ok (.ineg, 1) := by decide +kernel
theorem dX9_settle_66 : decode cX9_settle 66 = .ok (.invokevirtual 264, 3) := by decide +kernel
theorem dX9_settle_69 : decode cX9_settle 69 = .ok (.goto (-69), 3) := by decide +kernel
theorem dX9_settle_72 : decode cX9_settle 72 = .ok (.return_, 1) := by decide +kernel
theorem dX9_place_0 : decode cX9_place 0 = .ok (.iload_n 1, 1) := by decide +kernel
theorem dX9_place_1 : decode cX9_place 1 = .ok (.lookupswitch 71 #[(98, 67), (99, 59), (109, 69), (114, 61), (115, 65), (120, 63)], 59) := by decide +kernel
theorem dX9_place_60 : decode cX9_place 60 = .ok (.iconst 0, 1) := by decide +kernel
theorem dX9_place_61 : decode cX9_place 61 = .ok (.ireturn, 1) := by decide +kernel
theorem dX9_place_62 : decode cX9_place 62 = .ok (.iconst 1, 1) := by decide +kernel
theorem dX9_place_63 : decode cX9_place 63 = .ok (.ireturn, 1) := by decide +kernel
theorem dX9_place_64 : decode cX9_place 64 = .ok (.iconst 2, 1) := by decide +kernel
theorem dX9_place_65 : decode cX9_place 65 = .ok (.ireturn, 1) := by decide +kernel
theorem dX9_place_66 : decode cX9_place 66 = .ok (.iconst 3, 1) := by decide +kernel
theorem dX9_place_67 : decode cX9_place 67 = .ok (.ireturn, 1) := by decide +kernel
theorem dX9_place_68 : decode cX9_place 68 = .ok (.iconst 4, 1) := by decide +kernel
theorem dX9_place_69 : decode cX9_place 69 = .ok (.ireturn, 1) := by decide +kernel
theorem dX9_place_70 : decode cX9_place 70 = .ok (.iconst 5, 1) := by decide +kernel
theorem dX9_place_71 : decode cX9_place 71 = .ok (.ireturn, 1) := by decide +kernel
theorem dX9_place_72 : decode cX9_place 72 = .ok (.iconst (-1), 1) := by decide +kernel
theorem dX9_place_73 : decode cX9_place 73 = .ok (.ireturn, 1) := by decide +kernel
theorem dX9_takesTest_0 : decode cX9_takesTest 0 = .ok (.aload_n 0, 1) := by decide +kernel
theorem dX9_takesTest_1 : decode cX9_takesTest 1 = .ok (.aload_n 0, 1) := by decide +kernel
theorem dX9_takesTest_2 : decode cX9_takesTest 2 = .ok (.invokevirtual 253, 3) := by decide +kernel
theorem dX9_takesTest_5 : decode cX9_takesTest 5 = .ok (.invokevirtual 268, 3) := by decide +kernel
theorem dX9_takesTest_8 : decode cX9_takesTest 8 = .ok (.istore_n 1, 1) := by decide +kernel
theorem dX9_takesTest_9 : decode cX9_takesTest 9 = .ok (.iload_n 1, 1) := by decide +kernel
theorem dX9_takesTest_10 : decode cX9_takesTest 10 = .ok (.ifCond .ge 5, 3) := by decide +kernel
theorem dX9_takesTest_13 : decode cX9_takesTest 13 = .ok (.iconst 0, 1) := by decide +kernel
theorem dX9_takesTest_14 : decode cX9_takesTest 14 = .ok (.ireturn, 1) := by decide +kernel
theorem dX9_takesTest_15 : decode cX9_takesTest 15 = .ok (.aload_n 0, 1) := by decide +kernel
theorem dX9_takesTest_16 : decode cX9_takesTest 16 = .ok (.dup, 1) := by decide +kernel
theorem dX9_takesTest_17 : decode cX9_takesTest 17 = .ok (.getfield 41, 3) := by decide +kernel
theorem dX9_takesTest_20 : decode cX9_takesTest 20 = .ok (.iconst 1, 1) := by decide +kernel
theorem dX9_takesTest_21 : decode cX9_takesTest 21 = .ok (.iadd, 1) := by decide +kernel
theorem dX9_takesTest_22 : decode cX9_takesTest 22 = .ok (.putfield 41, 3) := by decide +kernel
theorem dX9_takesTest_25 : decode cX9_takesTest 25 = .ok (.aload_n 0, 1) := by decide +kernel
theorem dX9_takesTest_26 : decode cX9_takesTest 26 = .ok (.invokevirtual 253, 3) := by decide +kernel
theorem dX9_takesTest_29 : decode cX9_takesTest 29 = .ok (.istore_n 2, 1) := by decide +kernel
theorem dX9_takesTest_30 : decode cX9_takesTest 30 = .ok (.aload_n 0, 1) := by decide +kernel
theorem dX9_takesTest_31 : decode cX9_takesTest 31 = .ok (.iload_n 2, 1) := by decide +kernel
theorem dX9_takesTest_32 : decode cX9_takesTest 32 = .ok (.bipush 60, 2) := by decide +kernel
theorem dX9_takesTest_34 : decode cX9_takesTest 34 = .ok (.bipush 62, 2) := by decide +kernel
theorem dX9_takesTest_36 : decode cX9_takesTest 36 = .ok (.invokevirtual 224, 3) := by decide +kernel
theorem dX9_takesTest_39 : decode cX9_takesTest 39 = .ok (.ifCond .ne 5, 3) := by decide +kernel
theorem dX9_takesTest_42 : decode cX9_takesTest 42 = .ok (.iconst 0, 1) := by decide +kernel
theorem dX9_takesTest_43 : decode cX9_takesTest 43 = .ok (.ireturn, 1) := by decide +kernel
theorem dX9_takesTest_44 : decode cX9_takesTest 44 = .ok (.aload_n 0, 1) := by decide +kernel
theorem dX9_takesTest_45 : decode cX9_takesTest 45 = .ok (.dup, 1) := by decide +kernel
theorem dX9_takesTest_46 : decode cX9_takesTest 46 = .ok (.getfield 41, 3) := by decide +kernel
theorem dX9_takesTest_49 : decode cX9_takesTest 49 = .ok (.iconst 1, 1) := by decide +kernel
theorem dX9_takesTest_50 : decode cX9_takesTest 50 = .ok (.iadd, 1) := by decide +kernel
theorem dX9_takesTest_51 : decode cX9_takesTest 51 = .ok (.putfield 41, 3) := by decide +kernel
theorem dX9_takesTest_54 : decode cX9_takesTest 54 = .ok (.aload_n 0, 1) := by decide +kernel
theorem dX9_takesTest_55 : decode cX9_takesTest 55 = .ok (.invokevirtual 272, 3) := by decide +kernel
theorem dX9_takesTest_58 : decode cX9_takesTest 58 = .ok (.ifCond .ne 5, 3) := by decide +kernel
theorem dX9_takesTest_61 : decode cX9_takesTest 61 = .ok (.iconst 0, 1) := by decide +kernel
theorem dX9_takesTest_62 : decode cX9_takesTest 62 = .ok (.ireturn, 1) := by decide +kernel
theorem dX9_takesTest_63 : decode cX9_takesTest 63 = .ok (.aload_n 0, 1) := by decide +kernel
theorem dX9_takesTest_64 : decode cX9_takesTest 64 = .ok (.sipush 1000, 3) := by decide +kernel
theorem dX9_takesTest_67 : decode cX9_takesTest 67 = .ok (.iload_n 1, 1) := by decide +kernel
theorem dX9_takesTest_68 : decode cX9_takesTest 68 = .ok (.imul, 1) := by decide +kernel
theorem dX9_takesTest_69 : decode cX9_takesTest 69 = .ok (.bipush 100, 2) := by decide +kernel
theorem dX9_takesTest_71 : decode cX9_takesTest 71 = .ok (.iload_n 2, 1) := by decide +kernel
theorem dX9_takesTest_72 : decode cX9_takesTest 72 = .ok (.bipush 60, 2) := by decide +kernel
theorem dX9_takesTest_74 : decode cX9_takesTest 74 = .ok (.isub, 1) := by decide +kernel
theorem dX9_takesTest_75 : decode cX9_takesTest 75 = .ok (.imul, 1) := by decide +kernel
theorem dX9_takesTest_76 : decode cX9_takesTest 76 = .ok (.iadd, 1) := by decide +kernel
theorem dX9_takesTest_77 : decode cX9_takesTest 77 = .ok (.aload_n 0, 1) := by decide +kernel
theorem dX9_takesTest_78 : decode cX9_takesTest 78 = .ok (.getfield 44, 3) := by decide +kernel
theorem dX9_takesTest_81 : decode cX9_takesTest 81 = .ok (.iadd, 1) := by decide +kernel
theorem dX9_takesTest_82 : decode cX9_takesTest 82 = .ok (.invokevirtual 264, 3) := by decide +kernel
theorem dX9_takesTest_85 : decode cX9_takesTest 85 = .ok (.aload_n 0, 1) := by decide +kernel
theorem dX9_takesTest_86 : decode cX9_takesTest 86 = .ok (.invokevirtual 275, 3) := by decide +kernel
theorem dX9_takesTest_89 : decode cX9_takesTest 89 = .ok (.iconst 1, 1) := by decide +kernel
theorem dX9_takesTest_90 : decode cX9_takesTest 90 = .ok (.ireturn, 1) := by decide +kernel
theorem dX9_takesE_0 : decode cX9_takesE 0 = .ok (.aload_n 0, 1) := by decide +kernel
theorem dX9_takesE_1 : decode cX9_takesE 1 = .ok (.iconst 0, 1) := by decide +kernel
theorem dX9_takesE_2 : decode cX9_takesE 2 = .ok (.putfield 74, 3) := by decide +kernel
theorem dX9_takesE_5 : decode cX9_takesE 5 = .ok (.aload_n 0, 1) := by decide +kernel
theorem dX9_takesE_6 : decode cX9_takesE 6 = .ok (.iconst 0, 1) := by decide +kernel
theorem dX9_takesE_7 : decode cX9_takesE 7 = .ok (.putfield 77, 3) := by decide +kernel
theorem dX9_takesE_10 : decode cX9_takesE 10 = .ok (.aload_n 0, 1) := by decide +kernel
theorem dX9_takesE_11 : decode cX9_takesE 11 = .ok (.getfield 59, 3) := by decide +kernel
theorem dX9_takesE_14 : decode cX9_takesE 14 = .ok (.iload_n 1, 1) := by decide +kernel
theorem dX9_takesE_15 : decode cX9_takesE 15 = .ok (.aload_n 0, 1) := by decide +kernel
theorem dX9_takesE_16 : decode cX9_takesE 16 = .ok (.getfield 71, 3) := by decide +kernel
theorem dX9_takesE_19 : decode cX9_takesE 19 = .ok (.iastore, 1) := by decide +kernel
theorem dX9_takesE_20 : decode cX9_takesE 20 = .ok (.iconst 1, 1) := by decide +kernel
theorem dX9_takesE_21 : decode cX9_takesE 21 = .ok (.istore_n 2, 1) := by decide +kernel
theorem dX9_takesE_22 : decode cX9_takesE 22 = .ok (.aload_n 0, 1) := by decide +kernel
theorem dX9_takesE_23 : decode cX9_takesE 23 = .ok (.invokevirtual 253, 3) := by decide +kernel
theorem dX9_takesE_26 : decode cX9_takesE 26 = .ok (.istore_n 3, 1) := by decide +kernel
theorem dX9_takesE_27 : decode cX9_takesE 27 = .ok (.iload_n 2, 1) := by decide +kernel
theorem dX9_takesE_28 : decode cX9_takesE 28 = .ok (.ifCond .eq 82, 3) := by decide +kernel
theorem dX9_takesE_31 : decode cX9_takesE 31 = .ok (.iload_n 3, 1) := by decide +kernel
theorem dX9_takesE_32 : decode cX9_takesE 32 = .ok (.bipush 33, 2) := by decide +kernel
theorem dX9_takesE_34 : decode cX9_takesE 34 = .ok (.if_icmp .eq 9, 3) := by decide +kernel
theorem dX9_takesE_37 : decode cX9_takesE 37 = .ok (.iload_n 3, 1) := by decide +kernel
theorem dX9_takesE_38 : decode cX9_takesE 38 = .ok (.bipush 40, 2) := by decide +kernel
theorem dX9_takesE_40 : decode cX9_takesE 40 = .ok (.if_icmp .ne 56, 3) := by decide +kernel
theorem dX9_takesE_43 : decode cX9_takesE 43 = .ok (.aload_n 0, 1) := by decide +kernel
theorem dX9_takesE_44 : decode cX9_takesE 44 = .ok (.getfield 77, 3) := by decide +kernel
theorem dX9_takesE_47 : decode cX9_takesE 47 = .ok (.iconst 4, 1) := by decide +kernel
theorem dX9_takesE_48 : decode cX9_takesE 48 = .ok (.if_icmp .ne 5, 3) := by decide +kernel
theorem dX9_takesE_51 : decode cX9_takesE 51 = .ok (.iconst 0, 1) := by decide +kernel
theorem dX9_takesE_52 : decode cX9_takesE 52 = .ok (.ireturn, 1) := by decide +kernel
theorem dX9_takesE_53 : decode cX9_takesE 53 = .ok (.aload_n 0, 1) := by decide +kernel
theorem dX9_takesE_54 : decode cX9_takesE 54 = .ok (.dup, 1) := by decide +kernel
theorem dX9_takesE_55 : decode cX9_takesE 55 = .ok (.getfield 77, 3) := by decide +kernel
theorem dX9_takesE_58 : decode cX9_takesE 58 = .ok (.iconst 1, 1) := by decide +kernel
theorem dX9_takesE_59 : decode cX9_takesE 59 = .ok (.iadd, 1) := by decide +kernel
theorem dX9_takesE_60 : decode cX9_takesE 60 = .ok (.putfield 77, 3) := by decide +kernel
theorem dX9_takesE_63 : decode cX9_takesE 63 = .ok (.aload_n 0, 1) := by decide +kernel
theorem dX9_takesE_64 : decode cX9_takesE 64 = .ok (.getfield 68, 3) := by decide +kernel
theorem dX9_takesE_67 : decode cX9_takesE 67 = .ok (.aload_n 0, 1) := by decide +kernel
theorem dX9_takesE_68 : decode cX9_takesE 68 = .ok (.getfield 74, 3) := by decide +kernel
theorem dX9_takesE_71 : decode cX9_takesE 71 = .ok (.iload_n 3, 1) := by decide +kernel
theorem dX9_takesE_72 : decode cX9_takesE 72 = .ok (.iastore, 1) := by decide +kernel
theorem dX9_takesE_73 : decode cX9_takesE 73 = .ok (.aload_n 0, 1) := by decide +kernel
theorem dX9_takesE_74 : decode cX9_takesE 74 = .ok (.dup, 1) := by decide +kernel
theorem dX9_takesE_75 : decode cX9_takesE 75 = .ok (.getfield 74, 3) := by decide +kernel
theorem dX9_takesE_78 : decode cX9_takesE 78 = .ok (.iconst 1, 1) := by decide +kernel
theorem dX9_takesE_79 : decode cX9_takesE 79 = .ok (.iadd, 1) := by decide +kernel
theorem dX9_takesE_80 : decode cX9_takesE 80 = .ok (.putfield 74, 3) := by decide +kernel
theorem dX9_takesE_83 : decode cX9_takesE 83 = .ok (.aload_n 0, 1) := by decide +kernel
theorem dX9_takesE_84 : decode cX9_takesE 84 = .ok (.dup, 1) := by decide +kernel
theorem dX9_takesE_85 : decode cX9_takesE 85 = .ok (.getfield 41, 3) := by decide +kernel
theorem dX9_takesE_88 : decode cX9_takesE 88 = .ok (.iconst 1, 1) := by decide +kernel
theorem dX9_takesE_89 : decode cX9_takesE 89 = .ok (.iadd, 1) := by decide +kernel
theorem dX9_takesE_90 : decode cX9_takesE 90 = .ok (.putfield 41, 3) := by decide +kernel
theorem dX9_takesE_93 : decode cX9_takesE 93 = .ok (.goto (-71), 3) := by decide +kernel
theorem dX9_takesE_96 : decode cX9_takesE 96 = .ok (.aload_n 0, 1) := by decide +kernel
theorem dX9_takesE_97 : decode cX9_takesE 97 = .ok (.invokevirtual 278, 3) := by decide +kernel
theorem dX9_takesE_100 : decode cX9_takesE 100 = .ok (.ifCond .eq 8, 3) := by decide +kernel
theorem dX9_takesE_103 : decode cX9_takesE 103 = .ok (.iconst 0, 1) := by decide +kernel
theorem dX9_takesE_104 : decode cX9_takesE 104 = .ok (.istore_n 2, 1) := by decide +kernel
theorem dX9_takesE_105 : decode cX9_takesE 105 = .ok (.goto (-83), 3) := by decide +kernel
theorem dX9_takesE_108 : decode cX9_takesE 108 = .ok (.iconst 0, 1) := by decide +kernel
theorem dX9_takesE_109 : decode cX9_takesE 109 = .ok (.ireturn, 1) := by decide +kernel
theorem dX9_takesE_110 : decode cX9_takesE 110 = .ok (.iload_n 3, 1) := by decide +kernel
theorem dX9_takesE_111 : decode cX9_takesE 111 = .ok (.bipush 38, 2) := by decide +kernel
theorem dX9_takesE_113 : decode cX9_takesE 113 = .ok (.if_icmp .eq 9, 3) := by decide +kernel
theorem dX9_takesE_116 : decode cX9_takesE 116 = .ok (.iload_n 3, 1) := by decide +kernel
theorem dX9_takesE_117 : decode cX9_takesE 117 = .ok (.bipush 124, 2) := by decide +kernel
theorem dX9_takesE_119 : decode cX9_takesE 119 = .ok (.if_icmp .ne 43, 3) := by decide +kernel
theorem dX9_takesE_122 : decode cX9_takesE 122 = .ok (.aload_n 0, 1) := by decide +kernel
theorem dX9_takesE_123 : decode cX9_takesE 123 = .ok (.iload_n 3, 1) := by decide +kernel
theorem dX9_takesE_124 : decode cX9_takesE 124 = .ok (.invokevirtual 281, 3) := by decide +kernel
theorem dX9_takesE_127 : decode cX9_takesE 127 = .ok (.aload_n 0, 1) := by decide +kernel
theorem dX9_takesE_128 : decode cX9_takesE 128 = .ok (.getfield 68, 3) := by decide +kernel
theorem dX9_takesE_131 : decode cX9_takesE 131 = .ok (.aload_n 0, 1) := by decide +kernel
theorem dX9_takesE_132 : decode cX9_takesE 132 = .ok (.getfield 74, 3) := by decide +kernel
theorem dX9_takesE_135 : decode cX9_takesE 135 = .ok (.iload_n 3, 1) := by decide +kernel
theorem dX9_takesE_136 : decode cX9_takesE 136 = .ok (.iastore, 1) := by decide +kernel
theorem dX9_takesE_137 : decode cX9_takesE 137 = .ok (.aload_n 0, 1) := by decide +kernel
theorem dX9_takesE_138 : decode cX9_takesE 138 = .ok (.dup, 1) := by decide +kernel
theorem dX9_takesE_139 : decode cX9_takesE 139 = .ok (.getfield 74, 3) := by decide +kernel
theorem dX9_takesE_142 : decode cX9_takesE 142 = .ok (.iconst 1, 1) := by decide +kernel
theorem dX9_takesE_143 : decode cX9_takesE 143 = .ok (.iadd, 1) := by decide +kernel
theorem dX9_takesE_144 : decode cX9_takesE 144 = .ok (.putfield 74, 3) := by decide +kernel
theorem dX9_takesE_147 : decode cX9_takesE 147 = .ok (.iconst 1, 1) := by decide +kernel
theorem dX9_takesE_148 : decode cX9_takesE 148 = .ok (.istore_n 2, 1) := by decide +kernel
theorem dX9_takesE_149 : decode cX9_takesE 149 = .ok (.aload_n 0, 1) := by decide +kernel
theorem dX9_takesE_150 : decode cX9_takesE 150 = .ok (.dup, 1) := by decide +kernel
theorem dX9_takesE_151 : decode cX9_takesE 151 = .ok (.getfield 41, 3) := by decide +kernel
theorem dX9_takesE_154 : decode cX9_takesE 154 = .ok (.iconst 1, 1) := by decide +kernel
theorem dX9_takesE_155 : decode cX9_takesE 155 = .ok (.iadd, 1) := by decide +kernel
theorem dX9_takesE_156 : decode cX9_takesE 156 = .ok (.putfield 41, 3) := by decide +kernel
theorem dX9_takesE_159 : decode cX9_takesE 159 = .ok (.goto (-137), 3) := by decide +kernel
theorem dX9_takesE_162 : decode cX9_takesE 162 = .ok (.aload_n 0, 1) := by decide +kernel
theorem dX9_takesE_163 : decode cX9_takesE 163 = .ok (.bipush 124, 2) := by decide +kernel
theorem dX9_takesE_165 : decode cX9_takesE 165 = .ok (.invokevirtual 281, 3) := by decide +kernel
theorem dX9_takesE_168 : decode cX9_takesE 168 = .ok (.aload_n 0, 1) := by decide +kernel
theorem dX9_takesE_169 : decode cX9_takesE 169 = .ok (.getfield 62, 3) := by decide +kernel
theorem dX9_takesE_172 : decode cX9_takesE 172 = .ok (.iload_n 1, 1) := by decide +kernel
theorem dX9_takesE_173 : decode cX9_takesE 173 = .ok (.aload_n 0, 1) := by decide +kernel
theorem dX9_takesE_174 : decode cX9_takesE 174 = .ok (.getfield 71, 3) := by decide +kernel
theorem dX9_takesE_177 : decode cX9_takesE 177 = .ok (.iastore, 1) := by decide +kernel
theorem dX9_takesE_178 : decode cX9_takesE 178 = .ok (.aload_n 0, 1) := by decide +kernel
theorem dX9_takesE_179 : decode cX9_takesE 179 = .ok (.getfield 74, 3) := by decide +kernel
theorem dX9_takesE_182 : decode cX9_takesE 182 = .ok (.ifCond .ne 5, 3) := by decide +kernel
theorem dX9_takesE_185 : decode cX9_takesE 185 = .ok (.iconst 1, 1) := by decide +kernel
theorem dX9_takesE_186 : decode cX9_takesE 186 = .ok (.ireturn, 1) := by decide +kernel
theorem dX9_takesE_187 : decode cX9_takesE 187 = .ok (.iload_n 3, 1) := by decide +kernel
theorem dX9_takesE_188 : decode cX9_takesE 188 = .ok (.bipush 41, 2) := by decide +kernel
theorem dX9_takesE_190 : decode cX9_takesE 190 = .ok (.if_icmp .eq 5, 3) := by decide +kernel
theorem dX9_takesE_193 : decode cX9_takesE 193 = .ok (.iconst 0, 1) := by decide +kernel
theorem dX9_takesE_194 : decode cX9_takesE 194 = .ok (.ireturn, 1) := by decide +kernel
theorem dX9_takesE_195 : decode cX9_takesE 195 = .ok (.aload_n 0, 1) := by decide +kernel
theorem dX9_takesE_196 : decode cX9_takesE 196 = .ok (.dup, 1) := by decide +kernel
theorem dX9_takesE_197 : decode cX9_takesE 197 = .ok (.getfield 74, 3) := by decide +kernel
theorem dX9_takesE_200 : decode cX9_takesE 200 = .ok (.iconst 1, 1) := by decide +kernel
theorem dX9_takesE_201 : decode cX9_takesE 201 = .ok (.isub, 1) := by decide +kernel
theorem dX9_takesE_202 : decode cX9_takesE 202 = .ok (.putfield 74, 3) := by decide +kernel
theorem dX9_takesE_205 : decode cX9_takesE 205 = .ok (.aload_n 0, 1) := by decide +kernel
theorem dX9_takesE_206 : decode cX9_takesE 206 = .ok (.dup, 1) := by decide +kernel
theorem dX9_takesE_207 : decode cX9_takesE 207 = .ok (.getfield 77, 3) := by decide +kernel
theorem dX9_takesE_210 : decode cX9_takesE 210 = .ok (.iconst 1, 1) := by decide +kernel
theorem dX9_takesE_211 : decode cX9_takesE 211 = .ok (.isub, 1) := by decide +kernel
theorem dX9_takesE_212 : decode cX9_takesE 212 = .ok (.putfield 77, 3) := by decide +kernel
theorem dX9_takesE_215 : decode cX9_takesE 215 = .ok (.aload_n 0, 1) := by decide +kernel
theorem dX9_takesE_216 : decode cX9_takesE 216 = .ok (.dup, 1) := by decide +kernel
theorem dX9_takesE_217 : decode cX9_takesE 217 = .ok (.getfield 41, 3) := by decide +kernel
theorem dX9_takesE_220 : decode cX9_takesE 220 = .ok (.iconst 1, 1) := by decide +kernel
theorem dX9_takesE_221 : decode cX9_takesE 221 = .ok (.iadd, 1) := by decide +kernel
theorem dX9_takesE_222 : decode cX9_takesE 222 = .ok (.putfield 41, 3) := by decide +kernel
theorem dX9_takesE_225 : decode cX9_takesE 225 = .ok (.aload_n 0, 1) := by decide +kernel
theorem dX9_takesE_226 : decode cX9_takesE 226 = .ok (.invokevirtual 275, 3) := by decide +kernel
theorem dX9_takesE_229 : decode cX9_takesE 229 = .ok (.goto (-207), 3) := by decide +kernel
theorem dX9_takesHead_0 : decode cX9_takesHead 0 = .ok (.aload_n 0, 1) := by decide +kernel
theorem dX9_takesHead_1 : decode cX9_takesHead 1 = .ok (.invokevirtual 253, 3) := by decide +kernel
theorem dX9_takesHead_4 : decode cX9_takesHead 4 = .ok (.lookupswitch 58 #[(109, 43), (115, 28)], 28) := by decide +kernel
theorem dX9_takesHead_32 : decode cX9_takesHead 32 = .ok (.aload_n 0, 1) := by decide +kernel
theorem dX9_takesHead_33 : decode cX9_takesHead 33 = .ok (.getfield 53, 3) := by decide +kernel
theorem dX9_takesHead_36 : decode cX9_takesHead 36 = .ok (.iload_n 1, 1) := by decide +kernel
theorem dX9_takesHead_37 : decode cX9_takesHead 37 = .ok (.iconst 2, 1) := by decide +kernel
theorem dX9_takesHead_38 : decode cX9_takesHead 38 = .ok (.iastore, 1) := by decide +kernel
theorem dX9_takesHead_39 : decode cX9_takesHead 39 = .ok (.aload_n 0, 1) := by decide +kernel
theorem dX9_takesHead_40 : decode cX9_takesHead 40 = .ok (.bipush 9, 2) := by decide +kernel
theorem dX9_takesHead_42 : decode cX9_takesHead 42 = .ok (.iconst 5, 1) := by decide +kernel
theorem dX9_takesHead_43 : decode cX9_takesHead 43 = .ok (.invokevirtual 284, 3) := by decide +kernel
theorem dX9_takesHead_46 : decode cX9_takesHead 46 = .ok (.ireturn, 1) := by decide +kernel
theorem dX9_takesHead_47 : decode cX9_takesHead 47 = .ok (.aload_n 0, 1) := by decide +kernel
theorem dX9_takesHead_48 : decode cX9_takesHead 48 = .ok (.getfield 53, 3) := by decide +kernel
theorem dX9_takesHead_51 : decode cX9_takesHead 51 = .ok (.iload_n 1, 1) := by decide +kernel
theorem dX9_takesHead_52 : decode cX9_takesHead 52 = .ok (.iconst 3, 1) := by decide +kernel
theorem dX9_takesHead_53 : decode cX9_takesHead 53 = .ok (.iastore, 1) := by decide +kernel
theorem dX9_takesHead_54 : decode cX9_takesHead 54 = .ok (.aload_n 0, 1) := by decide +kernel
theorem dX9_takesHead_55 : decode cX9_takesHead 55 = .ok (.bipush 14, 2) := by decide +kernel
theorem dX9_takesHead_57 : decode cX9_takesHead 57 = .ok (.iconst 4, 1) := by decide +kernel
theorem dX9_takesHead_58 : decode cX9_takesHead 58 = .ok (.invokevirtual 284, 3) := by decide +kernel
theorem dX9_takesHead_61 : decode cX9_takesHead 61 = .ok (.ireturn, 1) := by decide +kernel
theorem dX9_takesHead_62 : decode cX9_takesHead 62 = .ok (.aload_n 0, 1) := by decide +kernel
theorem dX9_takesHead_63 : decode cX9_takesHead 63 = .ok (.getfield 53, 3) := by decide +kernel
theorem dX9_takesHead_66 : decode cX9_takesHead 66 = .ok (.iload_n 1, 1) := by decide +kernel
theorem dX9_takesHead_67 : decode cX9_takesHead 67 = .ok (.aload_n 0, 1) := by decide +kernel
theorem dX9_takesHead_68 : decode cX9_takesHead 68 = .ok (.getfield 41, 3) := by decide +kernel
theorem dX9_takesHead_71 : decode cX9_takesHead 71 = .ok (.iconst 3, 1) := by decide +kernel
theorem dX9_takesHead_72 : decode cX9_takesHead 72 = .ok (.iadd, 1) := by decide +kernel
theorem dX9_takesHead_73 : decode cX9_takesHead 73 = .ok (.aload_n 0, 1) := by decide +kernel
theorem dX9_takesHead_74 : decode cX9_takesHead 74 = .ok (.getfield 38, 3) := by decide +kernel
theorem dX9_takesHead_77 : decode cX9_takesHead 77 = .ok (.if_icmp .ge 23, 3) := by decide +kernel
theorem dX9_takesHead_80 : decode cX9_takesHead 80 = .ok (.aload_n 0, 1) := by decide +kernel
theorem dX9_takesHead_81 : decode cX9_takesHead 81 = .ok (.getfield 47, 3) := by decide +kernel
theorem dX9_takesHead_84 : decode cX9_takesHead 84 = .ok (.aload_n 0, 1) := by decide +kernel
theorem dX9_takesHead_85 : decode cX9_takesHead 85 = .ok (.getfield 41, 3) := by decide +kernel
theorem dX9_takesHead_88 : decode cX9_takesHead 88 = .ok (.iconst 3, 1) := by decide +kernel
theorem dX9_takesHead_89 : decode cX9_takesHead 89 = .ok (.iadd, 1) := by decide +kernel
theorem dX9_takesHead_90 : decode cX9_takesHead 90 = .ok (.iaload, 1) := by decide +kernel
theorem dX9_takesHead_91 : decode cX9_takesHead 91 = .ok (.bipush 110, 2) := by decide +kernel
theorem dX9_takesHead_93 : decode cX9_takesHead 93 = .ok (.if_icmp .ne 7, 3) := by decide +kernel
theorem dX9_takesHead_96 : decode cX9_takesHead 96 = .ok (.iconst 1, 1) := by decide +kernel
theorem dX9_takesHead_97 : decode cX9_takesHead 97 = .ok (.goto 4, 3) := by decide +kernel
theorem dX9_takesHead_100 : decode cX9_takesHead 100 = .ok (.iconst 0, 1) := by decide +kernel
theorem dX9_takesHead_101 : decode cX9_takesHead 101 = .ok (.iastore, 1) := by decide +kernel
theorem dX9_takesHead_102 : decode cX9_takesHead 102 = .ok (.aload_n 0, 1) := by decide +kernel
theorem dX9_takesHead_103 : decode cX9_takesHead 103 = .ok (.getfield 53, 3) := by decide +kernel
theorem dX9_takesHead_106 : decode cX9_takesHead 106 = .ok (.iload_n 1, 1) := by decide +kernel
theorem dX9_takesHead_107 : decode cX9_takesHead 107 = .ok (.iaload, 1) := by decide +kernel
theorem dX9_takesHead_108 : decode cX9_takesHead 108 = .ok (.iconst 1, 1) := by decide +kernel
theorem dX9_takesHead_109 : decode cX9_takesHead 109 = .ok (.if_icmp .ne 12, 3) := by decide +kernel
theorem dX9_takesHead_112 : decode cX9_takesHead 112 = .ok (.aload_n 0, 1) := by decide +kernel
theorem dX9_takesHead_113 : decode cX9_takesHead 113 = .ok (.iconst 5, 1) := by decide +kernel
theorem dX9_takesHead_114 : decode cX9_takesHead 114 = .ok (.iconst 4, 1) := by decide +kernel
theorem dX9_takesHead_115 : decode cX9_takesHead 115 = .ok (.invokevirtual 284, 3) := by decide +kernel
theorem dX9_takesHead_118 : decode cX9_takesHead 118 = .ok (.goto 9, 3) := by decide +kernel
theorem dX9_takesHead_121 : decode cX9_takesHead 121 = .ok (.aload_n 0, 1) := by decide +kernel
theorem dX9_takesHead_122 : decode cX9_takesHead 122 = .ok (.iconst 0, 1) := by decide +kernel
theorem dX9_takesHead_123 : decode cX9_takesHead 123 = .ok (.iconst 5, 1) := by decide +kernel
theorem dX9_takesHead_124 : decode cX9_takesHead 124 = .ok (.invokevirtual 284, 3) := by decide +kernel
theorem dX9_takesHead_127 : decode cX9_takesHead 127 = .ok (.ireturn, 1) := by decide +kernel
theorem dX9_takesClause_0 : decode cX9_takesClause 0 = .ok (.aload_n 0, 1) := by decide +kernel
theorem dX9_takesClause_1 : decode cX9_takesClause 1 = .ok (.iload_n 1, 1) := by decide +kernel
theorem dX9_takesClause_2 : decode cX9_takesClause 2 = .ok (.invokevirtual 287, 3) := by decide +kernel
theorem dX9_takesClause_5 : decode cX9_takesClause 5 = .ok (.ifCond .eq 10, 3) := by decide +kernel
theorem dX9_takesClause_8 : decode cX9_takesClause 8 = .ok (.aload_n 0, 1) := by decide +kernel
theorem dX9_takesClause_9 : decode cX9_takesClause 9 = .ok (.invokevirtual 272, 3) := by decide +kernel
theorem dX9_takesClause_12 : decode cX9_takesClause 12 = .ok (.ifCond .ne 5, 3) := by decide +kernel
theorem dX9_takesClause_15 : decode cX9_takesClause 15 = .ok (.iconst 0, 1) := by decide +kernel
theorem dX9_takesClause_16 : decode cX9_takesClause 16 = .ok (.ireturn, 1) := by decide +kernel
theorem dX9_takesClause_17 : decode cX9_takesClause 17 = .ok (.aload_n 0, 1) := by decide +kernel
theorem dX9_takesClause_18 : decode cX9_takesClause 18 = .ok (.getfield 56, 3) := by decide +kernel
theorem dX9_takesClause_21 : decode cX9_takesClause 21 = .ok (.iload_n 1, 1) := by decide +kernel
theorem dX9_takesClause_22 : decode cX9_takesClause 22 = .ok (.aload_n 0, 1) := by decide +kernel
theorem dX9_takesClause_23 : decode cX9_takesClause 23 = .ok (.getfield 44, 3) := by decide +kernel
theorem dX9_takesClause_26 : decode cX9_takesClause 26 = .ok (.iastore, 1) := by decide +kernel
theorem dX9_takesClause_27 : decode cX9_takesClause 27 = .ok (.aload_n 0, 1) := by decide +kernel
theorem dX9_takesClause_28 : decode cX9_takesClause 28 = .ok (.getfield 53, 3) := by decide +kernel
theorem dX9_takesClause_31 : decode cX9_takesClause 31 = .ok (.iload_n 1, 1) := by decide +kernel
theorem dX9_takesClause_32 : decode cX9_takesClause 32 = .ok (.iaload, 1) := by decide +kernel
theorem dX9_takesClause_33 : decode cX9_takesClause 33 = .ok (.iconst 2, 1) := by decide +kernel
theorem dX9_takesClause_34 : decode cX9_takesClause 34 = .ok (.if_icmp .ge 20, 3) := by decide +kernel
theorem dX9_takesClause_37 : decode cX9_takesClause 37 = .ok (.aload_n 0, 1) := by decide +kernel
theorem dX9_takesClause_38 : decode cX9_takesClause 38 = .ok (.bipush 32, 2) := by decide +kernel
theorem dX9_takesClause_40 : decode cX9_takesClause 40 = .ok (.invokevirtual 257, 3) := by decide +kernel
theorem dX9_takesClause_43 : decode cX9_takesClause 43 = .ok (.ifCond .eq 15, 3) := by decide +kernel
theorem dX9_takesClause_46 : decode cX9_takesClause 46 = .ok (.aload_n 0, 1) := by decide +kernel
theorem dX9_takesClause_47 : decode cX9_takesClause 47 = .ok (.iload_n 1, 1) := by decide +kernel
theorem dX9_takesClause_48 : decode cX9_takesClause 48 = .ok (.invokevirtual 290, 3) := by decide +kernel
theorem dX9_takesClause_51 : decode cX9_takesClause 51 = .ok (.ifCond .eq 7, 3) := by decide +kernel
theorem dX9_takesClause_54 : decode cX9_takesClause 54 = .ok (.iconst 1, 1) := by decide +kernel
theorem dX9_takesClause_55 : decode cX9_takesClause 55 = .ok (.goto 4, 3) := by decide +kernel
theorem dX9_takesClause_58 : decode cX9_takesClause 58 = .ok (.iconst 0, 1) := by decide +kernel
theorem dX9_takesClause_59 : decode cX9_takesClause 59 = .ok (.ireturn, 1) := by decide +kernel
theorem dX9_goesText_0 : decode cX9_goesText 0 = .ok (.aload_n 0, 1) := by decide +kernel
theorem dX9_goesText_1 : decode cX9_goesText 1 = .ok (.iconst 0, 1) := by decide +kernel
theorem dX9_goesText_2 : decode cX9_goesText 2 = .ok (.putfield 41, 3) := by decide +kernel
theorem dX9_goesText_5 : decode cX9_goesText 5 = .ok (.aload_n 0, 1) := by decide +kernel
theorem dX9_goesText_6 : decode cX9_goesText 6 = .ok (.bipush 100, 2) := by decide +kernel
theorem dX9_goesText_8 : decode cX9_goesText 8 = .ok (.iload_n 1, 1) := by decide +kernel
theorem dX9_goesText_9 : decode cX9_goesText 9 = .ok (.imul, 1) := by decide +kernel
theorem dX9_goesText_10 : decode cX9_goesText 10 = .ok (.putfield 71, 3) := by decide +kernel
theorem dX9_goesText_13 : decode cX9_goesText 13 = .ok (.iconst 0, 1) := by decide +kernel
theorem dX9_goesText_14 : decode cX9_goesText 14 = .ok (.istore_n 2, 1) := by decide +kernel
theorem dX9_goesText_15 : decode cX9_goesText 15 = .ok (.aload_n 0, 1) := by decide +kernel
theorem dX9_goesText_16 : decode cX9_goesText 16 = .ok (.bipush 10, 2) := by decide +kernel
theorem dX9_goesText_18 : decode cX9_goesText 18 = .ok (.iload_n 1, 1) := by decide +kernel
theorem dX9_goesText_19 : decode cX9_goesText 19 = .ok (.imul, 1) := by decide +kernel
theorem dX9_goesText_20 : decode cX9_goesText 20 = .ok (.iload_n 2, 1) := by decide +kernel
theorem dX9_goesText_21 : decode cX9_goesText 21 = .ok (.iadd, 1) := by decide +kernel
theorem dX9_goesText_22 : decode cX9_goesText 22 = .ok (.invokevirtual 293, 3) := by decide +kernel
theorem dX9_goesText_25 : decode cX9_goesText 25 = .ok (.ifCond .ne 5, 3) := by decide +kernel
theorem dX9_goesText_28 : decode cX9_goesText 28 = .ok (.iconst 0, 1) := by decide +kernel
theorem dX9_goesText_29 : decode cX9_goesText 29 = .ok (.ireturn, 1) := by decide +kernel
theorem dX9_goesText_30 : decode cX9_goesText 30 = .ok (.iinc 2 1, 3) := by decide +kernel
theorem dX9_goesText_33 : decode cX9_goesText 33 = .ok (.aload_n 0, 1) := by decide +kernel
theorem dX9_goesText_34 : decode cX9_goesText 34 = .ok (.getfield 50, 3) := by decide +kernel
theorem dX9_goesText_37 : decode cX9_goesText 37 = .ok (.iload_n 1, 1) := by decide +kernel
theorem dX9_goesText_38 : decode cX9_goesText 38 = .ok (.iload_n 2, 1) := by decide +kernel
theorem dX9_goesText_39 : decode cX9_goesText 39 = .ok (.iastore, 1) := by decide +kernel
theorem dX9_goesText_40 : decode cX9_goesText 40 = .ok (.aload_n 0, 1) := by decide +kernel
theorem dX9_goesText_41 : decode cX9_goesText 41 = .ok (.getfield 41, 3) := by decide +kernel
theorem dX9_goesText_44 : decode cX9_goesText 44 = .ok (.aload_n 0, 1) := by decide +kernel
theorem dX9_goesText_45 : decode cX9_goesText 45 = .ok (.getfield 38, 3) := by decide +kernel
theorem dX9_goesText_48 : decode cX9_goesText 48 = .ok (.if_icmp .ne 5, 3) := by decide +kernel
theorem dX9_goesText_51 : decode cX9_goesText 51 = .ok (.iconst 1, 1) := by decide +kernel
theorem dX9_goesText_52 : decode cX9_goesText 52 = .ok (.ireturn, 1) := by decide +kernel
theorem dX9_goesText_53 : decode cX9_goesText 53 = .ok (.iload_n 2, 1) := by decide +kernel
theorem dX9_goesText_54 : decode cX9_goesText 54 = .ok (.bipush 10, 2) := by decide +kernel
theorem dX9_goesText_56 : decode cX9_goesText 56 = .ok (.if_icmp .eq 12, 3) := by decide +kernel
theorem dX9_goesText_59 : decode cX9_goesText 59 = .ok (.aload_n 0, 1) := by decide +kernel
theorem dX9_goesText_60 : decode cX9_goesText 60 = .ok (.bipush 59, 2) := by decide +kernel
theorem dX9_goesText_62 : decode cX9_goesText 62 = .ok (.invokevirtual 257, 3) := by decide +kernel
theorem dX9_goesText_65 : decode cX9_goesText 65 = .ok (.ifCond .ne (-50), 3) := by decide +kernel
theorem dX9_goesText_68 : decode cX9_goesText 68 = .ok (.iconst 0, 1) := by decide +kernel
theorem dX9_goesText_69 : decode cX9_goesText 69 = .ok (.ireturn, 1) := by decide +kernel
theorem dX9_brew_0 : decode cX9_brew 0 = .ok (.aload_n 0, 1) := by decide +kernel
theorem dX9_brew_1 : decode cX9_brew 1 = .ok (.getfield 32, 3) := by decide +kernel
theorem dX9_brew_4 : decode cX9_brew 4 = .ok (.bipush 6, 2) := by decide +kernel
theorem dX9_brew_6 : decode cX9_brew 6 = .ok (.if_icmp .ne 6, 3) := by decide +kernel
theorem dX9_brew_9 : decode cX9_brew 9 = .ok (.bipush (-4), 2) := by decide +kernel
theorem dX9_brew_11 : decode cX9_brew 11 = .ok (.ireturn, 1) := by decide +kernel
theorem dX9_brew_12 : decode cX9_brew 12 = .ok (.aload_n 0, 1) := by decide +kernel
theorem dX9_brew_13 : decode cX9_brew 13 = .ok (.aload_n 0, 1) := by decide +kernel
theorem dX9_brew_14 : decode cX9_brew 14 = .ok (.getfield 32, 3) := by decide +kernel
theorem dX9_brew_17 : decode cX9_brew 17 = .ok (.invokevirtual 296, 3) := by decide +kernel
theorem dX9_brew_20 : decode cX9_brew 20 = .ok (.istore_n 1, 1) := by decide +kernel
theorem dX9_brew_21 : decode cX9_brew 21 = .ok (.aload_n 0, 1) := by decide +kernel
theorem dX9_brew_22 : decode cX9_brew 22 = .ok (.iconst 0, 1) := by decide +kernel
theorem dX9_brew_23 : decode cX9_brew 23 = .ok (.putfield 38, 3) := by decide +kernel
theorem dX9_brew_26 : decode cX9_brew 26 = .ok (.iload_n 1, 1) := by decide +kernel
theorem dX9_brew_27 : decode cX9_brew 27 = .ok (.ifCond .ne 11, 3) := by decide +kernel
theorem dX9_brew_30 : decode cX9_brew 30 = .ok (.bipush (-10), 2) := by decide +kernel
theorem dX9_brew_32 : decode cX9_brew 32 = .ok (.aload_n 0, 1) := by decide +kernel
theorem dX9_brew_33 : decode cX9_brew 33 = .ok (.getfield 41, 3) := by decide +kernel
theorem dX9_brew_36 : decode cX9_brew 36 = .ok (.isub, 1) := by decide +kernel
theorem dX9_brew_37 : decode cX9_brew 37 = .ok (.ireturn, 1) := by decide +kernel
theorem dX9_brew_38 : decode cX9_brew 38 = .ok (.aload_n 0, 1) := by decide +kernel
theorem dX9_brew_39 : decode cX9_brew 39 = .ok (.aload_n 0, 1) := by decide +kernel
theorem dX9_brew_40 : decode cX9_brew 40 = .ok (.getfield 32, 3) := by decide +kernel
theorem dX9_brew_43 : decode cX9_brew 43 = .ok (.putfield 35, 3) := by decide +kernel
theorem dX9_brew_46 : decode cX9_brew 46 = .ok (.aload_n 0, 1) := by decide +kernel
theorem dX9_brew_47 : decode cX9_brew 47 = .ok (.dup, 1) := by decide +kernel
theorem dX9_brew_48 : decode cX9_brew 48 = .ok (.getfield 32, 3) := by decide +kernel
theorem dX9_brew_51 : decode cX9_brew 51 = .ok (.iconst 1, 1) := by decide +kernel
theorem dX9_brew_52 : decode cX9_brew 52 = .ok (.iadd, 1) := by decide +kernel
theorem dX9_brew_53 : decode cX9_brew 53 = .ok (.putfield 32, 3) := by decide +kernel
theorem dX9_brew_56 : decode cX9_brew 56 = .ok (.aload_n 0, 1) := by decide +kernel
theorem dX9_brew_57 : decode cX9_brew 57 = .ok (.getfield 35, 3) := by decide +kernel
theorem dX9_brew_60 : decode cX9_brew 60 = .ok (.ireturn, 1) := by decide +kernel
theorem dX9_begin_0 : decode cX9_begin 0 = .ok (.aload_n 0, 1) := by decide +kernel
theorem dX9_begin_1 : decode cX9_begin 1 = .ok (.getfield 35, 3) := by decide +kernel
theorem dX9_begin_4 : decode cX9_begin 4 = .ok (.ifCond .ge 7, 3) := by decide +kernel
theorem dX9_begin_7 : decode cX9_begin 7 = .ok (.iconst 0, 1) := by decide +kernel
theorem dX9_begin_8 : decode cX9_begin 8 = .ok (.goto 10, 3) := by decide +kernel
theorem dX9_begin_11 : decode cX9_begin 11 = .ok (.bipush 10, 2) := by decide +kernel
theorem dX9_begin_13 : decode cX9_begin 13 = .ok (.aload_n 0, 1) := by decide +kernel
theorem dX9_begin_14 : decode cX9_begin 14 = .ok (.getfield 35, 3) := by decide +kernel
theorem dX9_begin_17 : decode cX9_begin 17 = .ok (.imul, 1) := by decide +kernel
theorem dX9_begin_18 : decode cX9_begin 18 = .ok (.ireturn, 1) := by decide +kernel
theorem dX9_behind_0 : decode cX9_behind 0 = .ok (.aload_n 0, 1) := by decide +kernel
theorem dX9_behind_1 : decode cX9_behind 1 = .ok (.getfield 35, 3) := by decide +kernel
theorem dX9_behind_4 : decode cX9_behind 4 = .ok (.ifCond .ge 7, 3) := by decide +kernel
theorem dX9_behind_7 : decode cX9_behind 7 = .ok (.iconst 0, 1) := by decide +kernel
theorem dX9_behind_8 : decode cX9_behind 8 = .ok (.goto 20, 3) := by decide +kernel
theorem dX9_behind_11 : decode cX9_behind 11 = .ok (.bipush 10, 2) := by decide +kernel
theorem dX9_behind_13 : decode cX9_behind 13 = .ok (.aload_n 0, 1) := by decide +kernel
theorem dX9_behind_14 : decode cX9_behind 14 = .ok (.getfield 35, 3) := by decide +kernel
theorem dX9_behind_17 : decode cX9_behind 17 = .ok (.imul, 1) := by decide +kernel
theorem dX9_behind_18 : decode cX9_behind 18 = .ok (.aload_n 0, 1) := by decide +kernel
theorem dX9_behind_19 : decode cX9_behind 19 = .ok (.getfield 50, 3) := by decide +kernel
theorem dX9_behind_22 : decode cX9_behind 22 = .ok (.aload_n 0, 1) := by decide +kernel
theorem dX9_behind_23 : decode cX9_behind 23 = .ok (.getfield 35, 3) := by decide +kernel
theorem dX9_behind_26 : decode cX9_behind 26 = .ok (.iaload, 1) := by decide +kernel
theorem dX9_behind_27 : decode cX9_behind 27 = .ok (.iadd, 1) := by decide +kernel
theorem dX9_behind_28 : decode cX9_behind 28 = .ok (.ireturn, 1) := by decide +kernel
theorem dX9_lastOf_0 : decode cX9_lastOf 0 = .ok (.iload_n 2, 1) := by decide +kernel
theorem dX9_lastOf_1 : decode cX9_lastOf 1 = .ok (.istore_n 3, 1) := by decide +kernel
theorem dX9_lastOf_2 : decode cX9_lastOf 2 = .ok (.aload_n 0, 1) := by decide +kernel
theorem dX9_lastOf_3 : decode cX9_lastOf 3 = .ok (.invokevirtual 299, 3) := by decide +kernel
theorem dX9_lastOf_6 : decode cX9_lastOf 6 = .ok (.istore 4, 2) := by decide +kernel
theorem dX9_lastOf_8 : decode cX9_lastOf 8 = .ok (.iload 4, 2) := by decide +kernel
theorem dX9_lastOf_10 : decode cX9_lastOf 10 = .ok (.aload_n 0, 1) := by decide +kernel
theorem dX9_lastOf_11 : decode cX9_lastOf 11 = .ok (.invokevirtual 302, 3) := by decide +kernel
theorem dX9_lastOf_14 : decode cX9_lastOf 14 = .ok (.if_icmp .ge 32, 3) := by decide +kernel
theorem dX9_lastOf_17 : decode cX9_lastOf 17 = .ok (.aload_n 0, 1) := by decide +kernel
theorem dX9_lastOf_18 : decode cX9_lastOf 18 = .ok (.getfield 53, 3) := by decide +kernel
theorem dX9_lastOf_21 : decode cX9_lastOf 21 = .ok (.iload 4, 2) := by decide +kernel
theorem dX9_lastOf_23 : decode cX9_lastOf 23 = .ok (.iaload, 1) := by decide +kernel
theorem dX9_lastOf_24 : decode cX9_lastOf 24 = .ok (.iload_n 1, 1) := by decide +kernel
theorem dX9_lastOf_25 : decode cX9_lastOf 25 = .ok (.if_icmp .ne 13, 3) := by decide +kernel
theorem dX9_lastOf_28 : decode cX9_lastOf 28 = .ok (.aload_n 0, 1) := by decide +kernel
theorem dX9_lastOf_29 : decode cX9_lastOf 29 = .ok (.getfield 56, 3) := by decide +kernel
theorem dX9_lastOf_32 : decode cX9_lastOf 32 = .ok (.iload 4, 2) := by decide +kernel
theorem dX9_lastOf_34 : decode cX9_lastOf 34 = .ok (.iaload, 1) := by decide +kernel
theorem dX9_lastOf_35 : decode cX9_lastOf 35 = .ok (.goto 4, 3) := by decide +kernel
theorem dX9_lastOf_38 : decode cX9_lastOf 38 = .ok (.iload_n 3, 1) := by decide +kernel
theorem dX9_lastOf_39 : decode cX9_lastOf 39 = .ok (.istore_n 3, 1) := by decide +kernel
theorem dX9_lastOf_40 : decode cX9_lastOf 40 = .ok (.iinc 4 1, 3) := by decide +kernel
theorem dX9_lastOf_43 : decode cX9_lastOf 43 = .ok (.goto (-35), 3) := by decide +kernel
theorem dX9_lastOf_46 : decode cX9_lastOf 46 = .ok (.iload_n 3, 1) := by decide +kernel
theorem dX9_lastOf_47 : decode cX9_lastOf 47 = .ok (.ireturn, 1) := by decide +kernel
theorem dX9_spoon_0 : decode cX9_spoon 0 = .ok (.aload_n 0, 1) := by decide +kernel
theorem dX9_spoon_1 : decode cX9_spoon 1 = .ok (.iconst 2, 1) := by decide +kernel
theorem dX9_spoon_2 : decode cX9_spoon 2 = .ok (.bipush 99, 2) := by decide +kernel
theorem dX9_spoon_4 : decode cX9_spoon 4 = .ok (.invokevirtual 305, 3) := by decide +kernel
theorem dX9_spoon_7 : decode cX9_spoon 7 = .ok (.istore_n 1, 1) := by decide +kernel
theorem dX9_spoon_8 : decode cX9_spoon 8 = .ok (.iload_n 1, 1) := by decide +kernel
theorem dX9_spoon_9 : decode cX9_spoon 9 = .ok (.bipush 16, 2) := by decide +kernel
theorem dX9_spoon_11 : decode cX9_spoon 11 = .ok (.if_icmp .ge 7, 3) := by decide +kernel
theorem dX9_spoon_14 : decode cX9_spoon 14 = .ok (.iload_n 1, 1) := by decide +kernel
theorem dX9_spoon_15 : decode cX9_spoon 15 = .ok (.goto 5, 3) := by decide +kernel
theorem dX9_spoon_18 : decode cX9_spoon 18 = .ok (.bipush (-5), 2) := by decide +kernel
theorem dX9_spoon_20 : decode cX9_spoon 20 = .ok (.ireturn, 1) := by decide +kernel
theorem dX9_milkOf_0 : decode cX9_milkOf 0 = .ok (.aload_n 0, 1) := by decide +kernel
theorem dX9_milkOf_1 : decode cX9_milkOf 1 = .ok (.aload_n 0, 1) := by decide +kernel
theorem dX9_milkOf_2 : decode cX9_milkOf 2 = .ok (.getfield 16, 3) := by decide +kernel
theorem dX9_milkOf_5 : decode cX9_milkOf 5 = .ok (.iload_n 1, 1) := by decide +kernel
theorem dX9_milkOf_6 : decode cX9_milkOf 6 = .ok (.iaload, 1) := by decide +kernel
theorem dX9_milkOf_7 : decode cX9_milkOf 7 = .ok (.aload_n 0, 1) := by decide +kernel
theorem dX9_milkOf_8 : decode cX9_milkOf 8 = .ok (.iconst 3, 1) := by decide +kernel
theorem dX9_milkOf_9 : decode cX9_milkOf 9 = .ok (.bipush 10, 2) := by decide +kernel
theorem dX9_milkOf_11 : decode cX9_milkOf 11 = .ok (.invokevirtual 305, 3) := by decide +kernel
theorem dX9_milkOf_14 : decode cX9_milkOf 14 = .ok (.isub, 1) := by decide +kernel
theorem dX9_milkOf_15 : decode cX9_milkOf 15 = .ok (.invokevirtual 308, 3) := by decide +kernel
theorem dX9_milkOf_18 : decode cX9_milkOf 18 = .ok (.ireturn, 1) := by decide +kernel
theorem dX9_factOf_0 : decode cX9_factOf 0 = .ok (.iload_n 1, 1) := by decide +kernel
theorem dX9_factOf_1 : decode cX9_factOf 1 = .ok (.tableswitch 77 0 4 #[35, 37, 41, 45, 55], 35) := by decide +kernel
theorem dX9_factOf_36 : decode cX9_factOf 36 = .ok (.iload_n 2, 1) := by decide +kernel
theorem dX9_factOf_37 : decode cX9_factOf 37 = .ok (.ireturn, 1) := by decide +kernel
theorem dX9_factOf_38 : decode cX9_factOf 38 = .ok (.iload_n 2, 1) := by decide +kernel
theorem dX9_factOf_39 : decode cX9_factOf 39 = .ok (.iconst 4, 1) := by decide +kernel
theorem dX9_factOf_40 : decode cX9_factOf 40 = .ok (.idiv, 1) := by decide +kernel
theorem dX9_factOf_41 : decode cX9_factOf 41 = .ok (.ireturn, 1) := by decide +kernel
theorem dX9_factOf_42 : decode cX9_factOf 42 = .ok (.iload_n 2, 1) := by decide +kernel
theorem dX9_factOf_43 : decode cX9_factOf 43 = .ok (.iconst 4, 1) := by decide +kernel
theorem dX9_factOf_44 : decode cX9_factOf 44 = .ok (.irem, 1) := by decide +kernel
theorem dX9_factOf_45 : decode cX9_factOf 45 = .ok (.ireturn, 1) := by decide +kernel
theorem dX9_factOf_46 : decode cX9_factOf 46 = .ok (.aload_n 0, 1) := by decide +kernel
theorem dX9_factOf_47 : decode cX9_factOf 47 = .ok (.getfield 16, 3) := by decide +kernel
theorem dX9_factOf_50 : decode cX9_factOf 50 = .ok (.iload_n 2, 1) := by decide +kernel
theorem dX9_factOf_51 : decode cX9_factOf 51 = .ok (.iaload, 1) := by decide +kernel
theorem dX9_factOf_52 : decode cX9_factOf 52 = .ok (.bipush 10, 2) := by decide +kernel
theorem dX9_factOf_54 : decode cX9_factOf 54 = .ok (.idiv, 1) := by decide +kernel
theorem dX9_factOf_55 : decode cX9_factOf 55 = .ok (.ireturn, 1) := by decide +kernel
theorem dX9_factOf_56 : decode cX9_factOf 56 = .ok (.iload_n 2, 1) := by decide +kernel
theorem dX9_factOf_57 : decode cX9_factOf 57 = .ok (.iconst 4, 1) := by decide +kernel
theorem dX9_factOf_58 : decode cX9_factOf 58 = .ok (.idiv, 1) := by decide +kernel
theorem dX9_factOf_59 : decode cX9_factOf 59 = .ok (.iconst 3, 1) := by decide +kernel
theorem dX9_factOf_60 : decode cX9_factOf 60 = .ok (.irem, 1) := by decide +kernel
theorem dX9_factOf_61 : decode cX9_factOf 61 = .ok (.ifCond .eq 11, 3) := by decide +kernel
theorem dX9_factOf_64 : decode cX9_factOf 64 = .ok (.iload_n 2, 1) := by decide +kernel
theorem dX9_factOf_65 : decode cX9_factOf 65 = .ok (.iconst 4, 1) := by decide +kernel
theorem dX9_factOf_66 : decode cX9_factOf 66 = .ok (.irem, 1) := by decide +kernel
theorem dX9_factOf_67 : decode cX9_factOf 67 = .ok (.iconst 3, 1) := by decide +kernel
theorem dX9_factOf_68 : decode cX9_factOf 68 = .ok (.irem, 1) := by decide +kernel
theorem dX9_factOf_69 : decode cX9_factOf 69 = .ok (.ifCond .ne 7, 3) := by decide +kernel
theorem dX9_factOf_72 : decode cX9_factOf 72 = .ok (.iconst 1, 1) := by decide +kernel
theorem dX9_factOf_73 : decode cX9_factOf 73 = .ok (.goto 4, 3) := by decide +kernel
theorem dX9_factOf_76 : decode cX9_factOf 76 = .ok (.iconst 0, 1) := by decide +kernel
theorem dX9_factOf_77 : decode cX9_factOf 77 = .ok (.ireturn, 1) := by decide +kernel
theorem dX9_factOf_78 : decode cX9_factOf 78 = .ok (.aload_n 0, 1) := by decide +kernel
theorem dX9_factOf_79 : decode cX9_factOf 79 = .ok (.getfield 13, 3) := by decide +kernel
theorem dX9_factOf_82 : decode cX9_factOf 82 = .ok (.bipush 10, 2) := by decide +kernel
theorem dX9_factOf_84 : decode cX9_factOf 84 = .ok (.irem, 1) := by decide +kernel
theorem dX9_factOf_85 : decode cX9_factOf 85 = .ok (.ireturn, 1) := by decide +kernel
theorem dX9_holds_0 : decode cX9_holds 0 = .ok (.iconst 0, 1) := by decide +kernel
theorem dX9_holds_1 : decode cX9_holds 1 = .ok (.istore_n 3, 1) := by decide +kernel
theorem dX9_holds_2 : decode cX9_holds 2 = .ok (.aload_n 0, 1) := by decide +kernel
theorem dX9_holds_3 : decode cX9_holds 3 = .ok (.getfield 59, 3) := by decide +kernel
theorem dX9_holds_6 : decode cX9_holds 6 = .ok (.iload_n 1, 1) := by decide +kernel
theorem dX9_holds_7 : decode cX9_holds 7 = .ok (.iaload, 1) := by decide +kernel
theorem dX9_holds_8 : decode cX9_holds 8 = .ok (.istore 4, 2) := by decide +kernel
theorem dX9_holds_10 : decode cX9_holds 10 = .ok (.iload 4, 2) := by decide +kernel
theorem dX9_holds_12 : decode cX9_holds 12 = .ok (.aload_n 0, 1) := by decide +kernel
theorem dX9_holds_13 : decode cX9_holds 13 = .ok (.getfield 62, 3) := by decide +kernel
theorem dX9_holds_16 : decode cX9_holds 16 = .ok (.iload_n 1, 1) := by decide +kernel
theorem dX9_holds_17 : decode cX9_holds 17 = .ok (.iaload, 1) := by decide +kernel
theorem dX9_holds_18 : decode cX9_holds 18 = .ok (.if_icmp .ge 225, 3) := by decide +kernel
theorem dX9_holds_21 : decode cX9_holds 21 = .ok (.aload_n 0, 1) := by decide +kernel
theorem dX9_holds_22 : decode cX9_holds 22 = .ok (.getfield 65, 3) := by decide +kernel
theorem dX9_holds_25 : decode cX9_holds 25 = .ok (.iload 4, 2) := by decide +kernel
theorem dX9_holds_27 : decode cX9_holds 27 = .ok (.iaload, 1) := by decide +kernel
theorem dX9_holds_28 : decode cX9_holds 28 = .ok (.istore 5, 2) := by decide +kernel
theorem dX9_holds_30 : decode cX9_holds 30 = .ok (.iload 5, 2) := by decide +kernel
theorem dX9_holds_32 : decode cX9_holds 32 = .ok (.bipush (-33), 2) := by decide +kernel
theorem dX9_holds_34 : decode cX9_holds 34 = .ok (.if_icmp .ne 30, 3) := by decide +kernel
theorem dX9_holds_37 : decode cX9_holds 37 = .ok (.aload_n 0, 1) := by decide +kernel
theorem dX9_holds_38 : decode cX9_holds 38 = .ok (.getfield 83, 3) := by decide +kernel
theorem dX9_holds_41 : decode cX9_holds 41 = .ok (.iload_n 3, 1) := by decide +kernel
theorem dX9_holds_42 : decode cX9_holds 42 = .ok (.iconst 1, 1) := by decide +kernel
theorem dX9_holds_43 : decode cX9_holds 43 = .ok (.isub, 1) := by decide +kernel
theorem dX9_holds_44 : decode cX9_holds 44 = .ok (.aload_n 0, 1) := by decide +kernel
theorem dX9_holds_45 : decode cX9_holds 45 = .ok (.getfield 83, 3) := by decide +kernel
theorem dX9_holds_48 : decode cX9_holds 48 = .ok (.iload_n 3, 1) := by decide +kernel
theorem dX9_holds_49 : decode cX9_holds 49 = .ok (.iconst 1, 1) := by decide +kernel
theorem dX9_holds_50 : decode cX9_holds 50 = .ok (.isub, 1) := by decide +kernel
theorem dX9_holds_51 : decode cX9_holds 51 = .ok (.baload, 1) := by decide +kernel
theorem dX9_holds_52 : decode cX9_holds 52 = .ok (.ifCond .ne 7, 3) := by decide +kernel
theorem dX9_holds_55 : decode cX9_holds 55 = .ok (.iconst 1, 1) := by decide +kernel
theorem dX9_holds_56 : decode cX9_holds 56 = .ok (.goto 4, 3) := by decide +kernel
theorem dX9_holds_59 : decode cX9_holds 59 = .ok (.iconst 0, 1) := by decide +kernel
theorem dX9_holds_60 : decode cX9_holds 60 = .ok (.bastore, 1) := by decide +kernel
theorem dX9_holds_61 : decode cX9_holds 61 = .ok (.goto 176, 3) := by decide +kernel
theorem dX9_holds_64 : decode cX9_holds 64 = .ok (.iload 5, 2) := by decide +kernel
theorem dX9_holds_66 : decode cX9_holds 66 = .ok (.ifCond .ge 77, 3) := by decide +kernel
theorem dX9_holds_69 : decode cX9_holds 69 = .ok (.iinc 3 (-1), 3) := by decide +kernel
theorem dX9_holds_72 : decode cX9_holds 72 = .ok (.aload_n 0, 1) := by decide +kernel
theorem dX9_holds_73 : decode cX9_holds 73 = .ok (.getfield 83, 3) := by decide +kernel
theorem dX9_holds_76 : decode cX9_holds 76 = .ok (.iload_n 3, 1) := by decide +kernel
theorem dX9_holds_77 : decode cX9_holds 77 = .ok (.iconst 1, 1) := by decide +kernel
theorem dX9_holds_78 : decode cX9_holds 78 = .ok (.isub, 1) := by decide +kernel
theorem dX9_holds_79 : decode cX9_holds 79 = .ok (.iload 5, 2) := by decide +kernel
theorem dX9_holds_81 : decode cX9_holds 81 = .ok (.bipush (-38), 2) := by decide +kernel
theorem dX9_holds_83 : decode cX9_holds 83 = .ok (.if_icmp .ne 31, 3) := by decide +kernel
theorem dX9_holds_86 : decode cX9_holds 86 = .ok (.aload_n 0, 1) := by decide +kernel
theorem dX9_holds_87 : decode cX9_holds 87 = .ok (.getfield 83, 3) := by decide +kernel
theorem dX9_holds_90 : decode cX9_holds 90 = .ok (.iload_n 3, 1) := by decide +kernel
theorem dX9_holds_91 : decode cX9_holds 91 = .ok (.iconst 1, 1) := by decide +kernel
theorem dX9_holds_92 : decode cX9_holds 92 = .ok (.isub, 1) := by decide +kernel
theorem dX9_holds_93 : decode cX9_holds 93 = .ok (.baload, 1) := by decide +kernel
theorem dX9_holds_94 : decode cX9_holds 94 = .ok (.ifCond .eq 16, 3) := by decide +kernel
theorem dX9_holds_97 : decode cX9_holds 97 = .ok (.aload_n 0, 1) := by decide +kernel
theorem dX9_holds_98 : decode cX9_holds 98 = .ok (.getfield 83, 3) := by decide +kernel
theorem dX9_holds_101 : decode cX9_holds 101 = .ok (.iload_n 3, 1) := by decide +kernel
theorem dX9_holds_102 : decode cX9_holds 102 = .ok (.baload, 1) := by decide +kernel
theorem dX9_holds_103 : decode cX9_holds 103 = .ok (.ifCond .eq 7, 3) := by decide +kernel
theorem dX9_holds_106 : decode cX9_holds 106 = .ok (.iconst 1, 1) := by decide +kernel
theorem dX9_holds_107 : decode cX9_holds 107 = .ok (.goto 32, 3) := by decide +kernel
theorem dX9_holds_110 : decode cX9_holds 110 = .ok (.iconst 0, 1) := by decide +kernel
theorem dX9_holds_111 : decode cX9_holds 111 = .ok (.goto 28, 3) := by decide +kernel
theorem dX9_holds_114 : decode cX9_holds 114 = .ok (.aload_n 0, 1) := by decide +kernel
theorem dX9_holds_115 : decode cX9_holds 115 = .ok (.getfield 83, 3) := by decide +kernel
theorem dX9_holds_118 : decode cX9_holds 118 = .ok (.iload_n 3, 1) := by decide +kernel
theorem dX9_holds_119 : decode cX9_holds 119 = .ok (.iconst 1, 1) := by decide +kernel
theorem dX9_holds_120 : decode cX9_holds 120 = .ok (.isub, 1) := by decide +kernel
theorem dX9_holds_121 : decode cX9_holds 121 = .ok (.baload, 1) := by decide +kernel
theorem dX9_holds_122 : decode cX9_holds 122 = .ok (.ifCond .ne 12, 3) := by decide +kernel
theorem dX9_holds_125 : decode cX9_holds 125 = .ok (.aload_n 0, 1) := by decide +kernel
theorem dX9_holds_126 : decode cX9_holds 126 = .ok (.getfield 83, 3) := by decide +kernel
theorem dX9_holds_129 : decode cX9_holds 129 = .ok (.iload_n 3, 1) := by decide +kernel
theorem dX9_holds_130 : decode cX9_holds 130 = .ok (.baload, 1) := by decide +kernel
theorem dX9_holds_131 : decode cX9_holds 131 = .ok (.ifCond .eq 7, 3) := by decide +kernel
theorem dX9_holds_134 : decode cX9_holds 134 = .ok (.iconst 1, 1) := by decide +kernel
theorem dX9_holds_135 : decode cX9_holds 135 = .ok (.goto 4, 3) := by decide +kernel
theorem dX9_holds_138 : decode cX9_holds 138 = .ok (.iconst 0, 1) := by decide +kernel
theorem dX9_holds_139 : decode cX9_holds 139 = .ok (.bastore, 1) := by decide +kernel
theorem dX9_holds_140 : decode cX9_holds 140 = .ok (.goto 97, 3) := by decide +kernel
theorem dX9_holds_143 : decode cX9_holds 143 = .ok (.aload_n 0, 1) := by decide +kernel
theorem dX9_holds_144 : decode cX9_holds 144 = .ok (.iload 5, 2) := by decide +kernel
theorem dX9_holds_146 : decode cX9_holds 146 = .ok (.sipush 1000, 3) := by decide +kernel
theorem dX9_holds_149 : decode cX9_holds 149 = .ok (.idiv, 1) := by decide +kernel
theorem dX9_holds_150 : decode cX9_holds 150 = .ok (.iload_n 2, 1) := by decide +kernel
theorem dX9_holds_151 : decode cX9_holds 151 = .ok (.invokevirtual 311, 3) := by decide +kernel
theorem dX9_holds_154 : decode cX9_holds 154 = .ok (.istore 6, 2) := by decide +kernel
theorem dX9_holds_156 : decode cX9_holds 156 = .ok (.iload 5, 2) := by decide +kernel
theorem dX9_holds_158 : decode cX9_holds 158 = .ok (.bipush 100, 2) := by decide +kernel
theorem dX9_holds_160 : decode cX9_holds 160 = .ok (.idiv, 1) := by decide +kernel
theorem dX9_holds_161 : decode cX9_holds 161 = .ok (.bipush 10, 2) := by decide +kernel
theorem dX9_holds_163 : decode cX9_holds 163 = .ok (.irem, 1) := by decide +kernel
theorem dX9_holds_164 : decode cX9_holds 164 = .ok (.istore 7, 2) := by decide +kernel
theorem dX9_holds_166 : decode cX9_holds 166 = .ok (.aload_n 0, 1) := by decide +kernel
theorem dX9_holds_167 : decode cX9_holds 167 = .ok (.getfield 83, 3) := by decide +kernel
theorem dX9_holds_170 : decode cX9_holds 170 = .ok (.iload_n 3, 1) := by decide +kernel
theorem dX9_holds_171 : decode cX9_holds 171 = .ok (.iload 7, 2) := by decide +kernel
theorem dX9_holds_173 : decode cX9_holds 173 = .ok (.ifCond .ne 21, 3) := by decide +kernel
theorem dX9_holds_176 : decode cX9_holds 176 = .ok (.iload 6, 2) := by decide +kernel
theorem dX9_holds_178 : decode cX9_holds 178 = .ok (.iload 5, 2) := by decide +kernel
theorem dX9_holds_180 : decode cX9_holds 180 = .ok (.bipush 100, 2) := by decide +kernel
theorem dX9_holds_182 : decode cX9_holds 182 = .ok (.irem, 1) := by decide +kernel
theorem dX9_holds_183 : decode cX9_holds 183 = .ok (.if_icmp .ge 7, 3) := by decide +kernel
theorem dX9_holds_186 : decode cX9_holds 186 = .ok (.iconst 1, 1) := by decide +kernel
theorem dX9_holds_187 : decode cX9_holds 187 = .ok (.goto 46, 3) := by decide +kernel
theorem dX9_holds_190 : decode cX9_holds 190 = .ok (.iconst 0, 1) := by decide +kernel
theorem dX9_holds_191 : decode cX9_holds 191 = .ok (.goto 42, 3) := by decide +kernel
theorem dX9_holds_194 : decode cX9_holds 194 = .ok (.iload 7, 2) := by decide +kernel
theorem dX9_holds_196 : decode cX9_holds 196 = .ok (.iconst 1, 1) := by decide +kernel
theorem dX9_holds_197 : decode cX9_holds 197 = .ok (.if_icmp .ne 21, 3) := by decide +kernel
theorem dX9_holds_200 : decode cX9_holds 200 = .ok (.iload 6, 2) := by decide +kernel
theorem dX9_holds_202 : decode cX9_holds 202 = .ok (.iload 5, 2) := by decide +kernel
theorem dX9_holds_204 : decode cX9_holds 204 = .ok (.bipush 100, 2) := by decide +kernel
theorem dX9_holds_206 : decode cX9_holds 206 = .ok (.irem, 1) := by decide +kernel
theorem dX9_holds_207 : decode cX9_holds 207 = .ok (.if_icmp .ne 7, 3) := by decide +kernel
theorem dX9_holds_210 : decode cX9_holds 210 = .ok (.iconst 1, 1) := by decide +kernel
theorem dX9_holds_211 : decode cX9_holds 211 = .ok (.goto 22, 3) := by decide +kernel
theorem dX9_holds_214 : decode cX9_holds 214 = .ok (.iconst 0, 1) := by decide +kernel
theorem dX9_holds_215 : decode cX9_holds 215 = .ok (.goto 18, 3) := by decide +kernel
theorem dX9_holds_218 : decode cX9_holds 218 = .ok (.iload 6, 2) := by decide +kernel
theorem dX9_holds_220 : decode cX9_holds 220 = .ok (.iload 5, 2) := by decide +kernel
theorem dX9_holds_222 : decode cX9_holds 222 = .ok (.bipush 100, 2) := by decide +kernel
theorem dX9_holds_224 : decode cX9_holds 224 = .ok (.irem, 1) := by decide +kernel
theorem dX9_holds_225 : decode cX9_holds 225 = .ok (.if_icmp .le 7, 3) := by decide +kernel
theorem dX9_holds_228 : decode cX9_holds 228 = .ok (.iconst 1, 1) := by decide +kernel
theorem dX9_holds_229 : decode cX9_holds 229 = .ok (.goto 4, 3) := by decide +kernel
theorem dX9_holds_232 : decode cX9_holds 232 = .ok (.iconst 0, 1) := by decide +kernel
theorem dX9_holds_233 : decode cX9_holds 233 = .ok (.bastore, 1) := by decide +kernel
theorem dX9_holds_234 : decode cX9_holds 234 = .ok (.iinc 3 1, 3) := by decide +kernel
theorem dX9_holds_237 : decode cX9_holds 237 = .ok (.iinc 4 1, 3) := by decide +kernel
theorem dX9_holds_240 : decode cX9_holds 240 = .ok (.goto (-230), 3) := by decide +kernel
theorem dX9_holds_243 : decode cX9_holds 243 = .ok (.aload_n 0, 1) := by decide +kernel
theorem dX9_holds_244 : decode cX9_holds 244 = .ok (.getfield 83, 3) := by decide +kernel
theorem dX9_holds_247 : decode cX9_holds 247 = .ok (.iconst 0, 1) := by decide +kernel
theorem dX9_holds_248 : decode cX9_holds 248 = .ok (.baload, 1) := by decide +kernel
theorem dX9_holds_249 : decode cX9_holds 249 = .ok (.ireturn, 1) := by decide +kernel
theorem dX9_grows_0 : decode cX9_grows 0 = .ok (.iconst 2, 1) := by decide +kernel
theorem dX9_grows_1 : decode cX9_grows 1 = .ok (.istore_n 2, 1) := by decide +kernel
theorem dX9_grows_2 : decode cX9_grows 2 = .ok (.aload_n 0, 1) := by decide +kernel
theorem dX9_grows_3 : decode cX9_grows 3 = .ok (.invokevirtual 299, 3) := by decide +kernel
theorem dX9_grows_6 : decode cX9_grows 6 = .ok (.istore_n 3, 1) := by decide +kernel
theorem dX9_grows_7 : decode cX9_grows 7 = .ok (.iload_n 3, 1) := by decide +kernel
theorem dX9_grows_8 : decode cX9_grows 8 = .ok (.aload_n 0, 1) := by decide +kernel
theorem dX9_grows_9 : decode cX9_grows 9 = .ok (.invokevirtual 302, 3) := by decide +kernel
theorem dX9_grows_12 : decode cX9_grows 12 = .ok (.if_icmp .ge 59, 3) := by decide +kernel
theorem dX9_grows_15 : decode cX9_grows 15 = .ok (.aload_n 0, 1) := by decide +kernel
theorem dX9_grows_16 : decode cX9_grows 16 = .ok (.getfield 53, 3) := by decide +kernel
theorem dX9_grows_19 : decode cX9_grows 19 = .ok (.iload_n 3, 1) := by decide +kernel
theorem dX9_grows_20 : decode cX9_grows 20 = .ok (.iaload, 1) := by decide +kernel
theorem dX9_grows_21 : decode cX9_grows 21 = .ok (.iconst 1, 1) := by decide +kernel
theorem dX9_grows_22 : decode cX9_grows 22 = .ok (.if_icmp .gt 43, 3) := by decide +kernel
theorem dX9_grows_25 : decode cX9_grows 25 = .ok (.aload_n 0, 1) := by decide +kernel
theorem dX9_grows_26 : decode cX9_grows 26 = .ok (.iload_n 3, 1) := by decide +kernel
theorem dX9_grows_27 : decode cX9_grows 27 = .ok (.iload_n 1, 1) := by decide +kernel
theorem dX9_grows_28 : decode cX9_grows 28 = .ok (.invokevirtual 314, 3) := by decide +kernel
theorem dX9_grows_31 : decode cX9_grows 31 = .ok (.ifCond .ne 6, 3) := by decide +kernel
theorem dX9_grows_34 : decode cX9_grows 34 = .ok (.goto 31, 3) := by decide +kernel
theorem dX9_grows_37 : decode cX9_grows 37 = .ok (.iload_n 2, 1) := by decide +kernel
theorem dX9_grows_38 : decode cX9_grows 38 = .ok (.aload_n 0, 1) := by decide +kernel
theorem dX9_grows_39 : decode cX9_grows 39 = .ok (.getfield 53, 3) := by decide +kernel
theorem dX9_grows_42 : decode cX9_grows 42 = .ok (.iload_n 3, 1) := by decide +kernel
theorem dX9_grows_43 : decode cX9_grows 43 = .ok (.iaload, 1) := by decide +kernel
theorem dX9_grows_44 : decode cX9_grows 44 = .ok (.ifCond .ne 12, 3) := by decide +kernel
theorem dX9_grows_47 : decode cX9_grows 47 = .ok (.aload_n 0, 1) := by decide +kernel
theorem dX9_grows_48 : decode cX9_grows 48 = .ok (.getfield 56, 3) := by decide +kernel
theorem dX9_grows_51 : decode cX9_grows 51 = .ok (.iload_n 3, 1) := by decide +kernel
theorem dX9_grows_52 : decode cX9_grows 52 = .ok (.iaload, 1) := by decide +kernel
theorem dX9_grows_53 : decode cX9_grows 53 = .ok (.goto 10, 3) := by decide +kernel
theorem dX9_grows_56 : decode cX9_grows 56 = .ok (.aload_n 0, 1) := by decide +kernel
theorem dX9_grows_57 : decode cX9_grows 57 = .ok (.getfield 56, 3) := by decide +kernel
theorem dX9_grows_60 : decode cX9_grows 60 = .ok (.iload_n 3, 1) := by decide +kernel
theorem dX9_grows_61 : decode cX9_grows 61 = .ok (.iaload, 1) := by decide +kernel
theorem dX9_grows_62 : decode cX9_grows 62 = .ok (.ineg, 1) := by decide +kernel
theorem dX9_grows_63 : decode cX9_grows 63 = .ok (.iadd, 1) := by decide +kernel
theorem dX9_grows_64 : decode cX9_grows 64 = .ok (.istore_n 2, 1) := by decide +kernel
theorem dX9_grows_65 : decode cX9_grows 65 = .ok (.iinc 3 1, 3) := by decide +kernel
theorem dX9_grows_68 : decode cX9_grows 68 = .ok (.goto (-61), 3) := by decide +kernel
theorem dX9_grows_71 : decode cX9_grows 71 = .ok (.iload_n 2, 1) := by decide +kernel
theorem dX9_grows_72 : decode cX9_grows 72 = .ok (.ireturn, 1) := by decide +kernel
theorem dX9_needs_0 : decode cX9_needs 0 = .ok (.aload_n 0, 1) := by decide +kernel
theorem dX9_needs_1 : decode cX9_needs 1 = .ok (.getfield 26, 3) := by decide +kernel
theorem dX9_needs_4 : decode cX9_needs 4 = .ok (.iload_n 1, 1) := by decide +kernel
theorem dX9_needs_5 : decode cX9_needs 5 = .ok (.iaload, 1) := by decide +kernel
theorem dX9_needs_6 : decode cX9_needs 6 = .ok (.istore_n 3, 1) := by decide +kernel
theorem dX9_needs_7 : decode cX9_needs 7 = .ok (.aload_n 0, 1) := by decide +kernel
theorem dX9_needs_8 : decode cX9_needs 8 = .ok (.getfield 20, 3) := by decide +kernel
theorem dX9_needs_11 : decode cX9_needs 11 = .ok (.iload_n 1, 1) := by decide +kernel
theorem dX9_needs_12 : decode cX9_needs 12 = .ok (.iaload, 1) := by decide +kernel
theorem dX9_needs_13 : decode cX9_needs 13 = .ok (.tableswitch 109 2 6 #[35, 48, 57, 70, 87], 35) := by decide +kernel
theorem dX9_needs_48 : decode cX9_needs 48 = .ok (.iload_n 2, 1) := by decide +kernel
theorem dX9_needs_49 : decode cX9_needs 49 = .ok (.iconst 4, 1) := by decide +kernel
theorem dX9_needs_50 : decode cX9_needs 50 = .ok (.if_icmp .ge 9, 3) := by decide +kernel
theorem dX9_needs_53 : decode cX9_needs 53 = .ok (.iload_n 3, 1) := by decide +kernel
theorem dX9_needs_54 : decode cX9_needs 54 = .ok (.iconst 2, 1) := by decide +kernel
theorem dX9_needs_55 : decode cX9_needs 55 = .ok (.idiv, 1) := by decide +kernel
theorem dX9_needs_56 : decode cX9_needs 56 = .ok (.goto 4, 3) := by decide +kernel
theorem dX9_needs_59 : decode cX9_needs 59 = .ok (.iload_n 3, 1) := by decide +kernel
theorem dX9_needs_60 : decode cX9_needs 60 = .ok (.ireturn, 1) := by decide +kernel
theorem dX9_needs_61 : decode cX9_needs 61 = .ok (.iload_n 3, 1) := by decide +kernel
theorem dX9_needs_62 : decode cX9_needs 62 = .ok (.aload_n 0, 1) := by decide +kernel
theorem dX9_needs_63 : decode cX9_needs 63 = .ok (.getfield 23, 3) := by decide +kernel
theorem dX9_needs_66 : decode cX9_needs 66 = .ok (.iload_n 1, 1) := by decide +kernel
theorem dX9_needs_67 : decode cX9_needs 67 = .ok (.iaload, 1) := by decide +kernel
theorem dX9_needs_68 : decode cX9_needs 68 = .ok (.iadd, 1) := by decide +kernel
theorem dX9_needs_69 : decode cX9_needs 69 = .ok (.ireturn, 1) := by decide +kernel
theorem dX9_needs_70 : decode cX9_needs 70 = .ok (.aload_n 0, 1) := by decide +kernel
theorem dX9_needs_71 : decode cX9_needs 71 = .ok (.iload_n 3, 1) := by decide +kernel
theorem dX9_needs_72 : decode cX9_needs 72 = .ok (.aload_n 0, 1) := by decide +kernel
theorem dX9_needs_73 : decode cX9_needs 73 = .ok (.getfield 23, 3) := by decide +kernel
theorem dX9_needs_76 : decode cX9_needs 76 = .ok (.iload_n 1, 1) := by decide +kernel
theorem dX9_needs_77 : decode cX9_needs 77 = .ok (.iaload, 1) := by decide +kernel
theorem dX9_needs_78 : decode cX9_needs 78 = .ok (.isub, 1) := by decide +kernel
theorem dX9_needs_79 : decode cX9_needs 79 = .ok (.invokevirtual 308, 3) := by decide +kernel
theorem dX9_needs_82 : decode cX9_needs 82 = .ok (.ireturn, 1) := by decide +kernel
theorem dX9_needs_83 : decode cX9_needs 83 = .ok (.iload_n 2, 1) := by decide +kernel
theorem dX9_needs_84 : decode cX9_needs 84 = .ok (.iconst 4, 1) := by decide +kernel
theorem dX9_needs_85 : decode cX9_needs 85 = .ok (.if_icmp .ge 11, 3) := by decide +kernel
theorem dX9_needs_88 : decode cX9_needs 88 = .ok (.iload_n 3, 1) := by decide +kernel
theorem dX9_needs_89 : decode cX9_needs 89 = .ok (.iconst 2, 1) := by decide +kernel
theorem dX9_needs_90 : decode cX9_needs 90 = .ok (.idiv, 1) := by decide +kernel
theorem dX9_needs_91 : decode cX9_needs 91 = .ok (.iconst 2, 1) := by decide +kernel
theorem dX9_needs_92 : decode cX9_needs 92 = .ok (.imul, 1) := by decide +kernel
theorem dX9_needs_93 : decode cX9_needs 93 = .ok (.goto 6, 3) := by decide +kernel
theorem dX9_needs_96 : decode cX9_needs 96 = .ok (.iconst 2, 1) := by decide +kernel
theorem dX9_needs_97 : decode cX9_needs 97 = .ok (.iload_n 3, 1) := by decide +kernel
theorem dX9_needs_98 : decode cX9_needs 98 = .ok (.imul, 1) := by decide +kernel
theorem dX9_needs_99 : decode cX9_needs 99 = .ok (.ireturn, 1) := by decide +kernel
theorem dX9_needs_100 : decode cX9_needs 100 = .ok (.iload_n 3, 1) := by decide +kernel
theorem dX9_needs_101 : decode cX9_needs 101 = .ok (.aload_n 0, 1) := by decide +kernel
theorem dX9_needs_102 : decode cX9_needs 102 = .ok (.getfield 23, 3) := by decide +kernel
theorem dX9_needs_105 : decode cX9_needs 105 = .ok (.iload_n 1, 1) := by decide +kernel
theorem dX9_needs_106 : decode cX9_needs 106 = .ok (.iaload, 1) := by decide +kernel
theorem dX9_needs_107 : decode cX9_needs 107 = .ok (.iadd, 1) := by decide +kernel
theorem dX9_needs_108 : decode cX9_needs 108 = .ok (.aload_n 0, 1) := by decide +kernel
theorem dX9_needs_109 : decode cX9_needs 109 = .ok (.getfield 29, 3) := by decide +kernel
theorem dX9_needs_112 : decode cX9_needs 112 = .ok (.iconst 4, 1) := by decide +kernel
theorem dX9_needs_113 : decode cX9_needs 113 = .ok (.iload_n 1, 1) := by decide +kernel
theorem dX9_needs_114 : decode cX9_needs 114 = .ok (.imul, 1) := by decide +kernel
theorem dX9_needs_115 : decode cX9_needs 115 = .ok (.iload_n 2, 1) := by decide +kernel
theorem dX9_needs_116 : decode cX9_needs 116 = .ok (.iconst 4, 1) := by decide +kernel
theorem dX9_needs_117 : decode cX9_needs 117 = .ok (.idiv, 1) := by decide +kernel
theorem dX9_needs_118 : decode cX9_needs 118 = .ok (.iadd, 1) := by decide +kernel
theorem dX9_needs_119 : decode cX9_needs 119 = .ok (.iaload, 1) := by decide +kernel
theorem dX9_needs_120 : decode cX9_needs 120 = .ok (.iadd, 1) := by decide +kernel
theorem dX9_needs_121 : decode cX9_needs 121 = .ok (.ireturn, 1) := by decide +kernel
theorem dX9_needs_122 : decode cX9_needs 122 = .ok (.iload_n 3, 1) := by decide +kernel
theorem dX9_needs_123 : decode cX9_needs 123 = .ok (.ireturn, 1) := by decide +kernel
theorem dX9_bears_0 : decode cX9_bears 0 = .ok (.iload_n 1, 1) := by decide +kernel
theorem dX9_bears_1 : decode cX9_bears 1 = .ok (.aload_n 0, 1) := by decide +kernel
theorem dX9_bears_2 : decode cX9_bears 2 = .ok (.invokevirtual 317, 3) := by decide +kernel
theorem dX9_bears_5 : decode cX9_bears 5 = .ok (.if_icmp .eq 34, 3) := by decide +kernel
theorem dX9_bears_8 : decode cX9_bears 8 = .ok (.aload_n 0, 1) := by decide +kernel
theorem dX9_bears_9 : decode cX9_bears 9 = .ok (.aload_n 0, 1) := by decide +kernel
theorem dX9_bears_10 : decode cX9_bears 10 = .ok (.getfield 87, 3) := by decide +kernel
theorem dX9_bears_13 : decode cX9_bears 13 = .ok (.iload_n 1, 1) := by decide +kernel
theorem dX9_bears_14 : decode cX9_bears 14 = .ok (.invokevirtual 320, 3) := by decide +kernel
theorem dX9_bears_17 : decode cX9_bears 17 = .ok (.ifCond .ne 22, 3) := by decide +kernel
theorem dX9_bears_20 : decode cX9_bears 20 = .ok (.aload_n 0, 1) := by decide +kernel
theorem dX9_bears_21 : decode cX9_bears 21 = .ok (.getfield 16, 3) := by decide +kernel
theorem dX9_bears_24 : decode cX9_bears 24 = .ok (.iload_n 1, 1) := by decide +kernel
theorem dX9_bears_25 : decode cX9_bears 25 = .ok (.iaload, 1) := by decide +kernel
theorem dX9_bears_26 : decode cX9_bears 26 = .ok (.aload_n 0, 1) := by decide +kernel
theorem dX9_bears_27 : decode cX9_bears 27 = .ok (.iload_n 2, 1) := by decide +kernel
theorem dX9_bears_28 : decode cX9_bears 28 = .ok (.iload_n 1, 1) := by decide +kernel
theorem dX9_bears_29 : decode cX9_bears 29 = .ok (.invokevirtual 323, 3) := by decide +kernel
theorem dX9_bears_32 : decode cX9_bears 32 = .ok (.if_icmp .lt 7, 3) := by decide +kernel
theorem dX9_bears_35 : decode cX9_bears 35 = .ok (.iconst 1, 1) := by decide +kernel
theorem dX9_bears_36 : decode cX9_bears 36 = .ok (.goto 4, 3) := by decide +kernel
theorem dX9_bears_39 : decode cX9_bears 39 = .ok (.iconst 0, 1) := by decide +kernel
theorem dX9_bears_40 : decode cX9_bears 40 = .ok (.ireturn, 1) := by decide +kernel
theorem dX9_isStep_0 : decode cX9_isStep 0 = .ok (.aload_n 0, 1) := by decide +kernel
theorem dX9_isStep_1 : decode cX9_isStep 1 = .ok (.iload_n 2, 1) := by decide +kernel
theorem dX9_isStep_2 : decode cX9_isStep 2 = .ok (.iload_n 3, 1) := by decide +kernel
theorem dX9_isStep_3 : decode cX9_isStep 3 = .ok (.invokevirtual 242, 3) := by decide +kernel
theorem dX9_isStep_6 : decode cX9_isStep 6 = .ok (.istore 4, 2) := by decide +kernel
theorem dX9_isStep_8 : decode cX9_isStep 8 = .ok (.iload 4, 2) := by decide +kernel
theorem dX9_isStep_10 : decode cX9_isStep 10 = .ok (.iconst 1, 1) := by decide +kernel
theorem dX9_isStep_11 : decode cX9_isStep 11 = .ok (.if_icmp .eq 29, 3) := by decide +kernel
theorem dX9_isStep_14 : decode cX9_isStep 14 = .ok (.iload 4, 2) := by decide +kernel
theorem dX9_isStep_16 : decode cX9_isStep 16 = .ok (.iconst 2, 1) := by decide +kernel
theorem dX9_isStep_17 : decode cX9_isStep 17 = .ok (.if_icmp .ne 27, 3) := by decide +kernel
theorem dX9_isStep_20 : decode cX9_isStep 20 = .ok (.aload_n 0, 1) := by decide +kernel
theorem dX9_isStep_21 : decode cX9_isStep 21 = .ok (.getfield 20, 3) := by decide +kernel
theorem dX9_isStep_24 : decode cX9_isStep 24 = .ok (.iload_n 1, 1) := by decide +kernel
theorem dX9_isStep_25 : decode cX9_isStep 25 = .ok (.iaload, 1) := by decide +kernel
theorem dX9_isStep_26 : decode cX9_isStep 26 = .ok (.iconst 1, 1) := by decide +kernel
theorem dX9_isStep_27 : decode cX9_isStep 27 = .ok (.if_icmp .eq 13, 3) := by decide +kernel
theorem dX9_isStep_30 : decode cX9_isStep 30 = .ok (.aload_n 0, 1) := by decide +kernel
theorem dX9_isStep_31 : decode cX9_isStep 31 = .ok (.getfield 20, 3) := by decide +kernel
theorem dX9_isStep_34 : decode cX9_isStep 34 = .ok (.iload_n 1, 1) := by decide +kernel
theorem dX9_isStep_35 : decode cX9_isStep 35 = .ok (.iaload, 1) := by decide +kernel
theorem dX9_isStep_36 : decode cX9_isStep 36 = .ok (.iconst 4, 1) := by decide +kernel
theorem dX9_isStep_37 : decode cX9_isStep 37 = .ok (.if_icmp .ne 7, 3) := by decide +kernel
theorem dX9_isStep_40 : decode cX9_isStep 40 = .ok (.iconst 1, 1) := by decide +kernel
theorem dX9_isStep_41 : decode cX9_isStep 41 = .ok (.goto 4, 3) := by decide +kernel
theorem dX9_isStep_44 : decode cX9_isStep 44 = .ok (.iconst 0, 1) := by decide +kernel
theorem dX9_isStep_45 : decode cX9_isStep 45 = .ok (.ireturn, 1) := by decide +kernel
theorem dX9_layFar_0 : decode cX9_layFar 0 = .ok (.iconst 0, 1) := by decide +kernel
theorem dX9_layFar_1 : decode cX9_layFar 1 = .ok (.istore_n 3, 1) := by decide +kernel
theorem dX9_layFar_2 : decode cX9_layFar 2 = .ok (.iconst 0, 1) := by decide +kernel
theorem dX9_layFar_3 : decode cX9_layFar 3 = .ok (.istore 4, 2) := by decide +kernel
theorem dX9_layFar_5 : decode cX9_layFar 5 = .ok (.iload 4, 2) := by decide +kernel
theorem dX9_layFar_7 : decode cX9_layFar 7 = .ok (.bipush 16, 2) := by decide +kernel
theorem dX9_layFar_9 : decode cX9_layFar 9 = .ok (.if_icmp .ge 74, 3) := by decide +kernel
theorem dX9_layFar_12 : decode cX9_layFar 12 = .ok (.aload_n 0, 1) := by decide +kernel
theorem dX9_layFar_13 : decode cX9_layFar 13 = .ok (.getfield 96, 3) := by decide +kernel
theorem dX9_layFar_16 : decode cX9_layFar 16 = .ok (.iload 4, 2) := by decide +kernel
theorem dX9_layFar_18 : decode cX9_layFar 18 = .ok (.aload_n 0, 1) := by decide +kernel
theorem dX9_layFar_19 : decode cX9_layFar 19 = .ok (.iload 4, 2) := by decide +kernel
theorem dX9_layFar_21 : decode cX9_layFar 21 = .ok (.iload_n 1, 1) := by decide +kernel
theorem dX9_layFar_22 : decode cX9_layFar 22 = .ok (.invokevirtual 326, 3) := by decide +kernel
theorem dX9_layFar_25 : decode cX9_layFar 25 = .ok (.bastore, 1) := by decide +kernel
theorem dX9_layFar_26 : decode cX9_layFar 26 = .ok (.aload_n 0, 1) := by decide +kernel
theorem dX9_layFar_27 : decode cX9_layFar 27 = .ok (.getfield 90, 3) := by decide +kernel
theorem dX9_layFar_30 : decode cX9_layFar 30 = .ok (.iload 4, 2) := by decide +kernel
theorem dX9_layFar_32 : decode cX9_layFar 32 = .ok (.bipush (-5), 2) := by decide +kernel
theorem dX9_layFar_34 : decode cX9_layFar 34 = .ok (.iastore, 1) := by decide +kernel
theorem dX9_layFar_35 : decode cX9_layFar 35 = .ok (.aload_n 0, 1) := by decide +kernel
theorem dX9_layFar_36 : decode cX9_layFar 36 = .ok (.iload_n 2, 1) := by decide +kernel
theorem dX9_layFar_37 : decode cX9_layFar 37 = .ok (.iload 4, 2) := by decide +kernel
theorem dX9_layFar_39 : decode cX9_layFar 39 = .ok (.invokevirtual 320, 3) := by decide +kernel
theorem dX9_layFar_42 : decode cX9_layFar 42 = .ok (.ifCond .eq 35, 3) := by decide +kernel
theorem dX9_layFar_45 : decode cX9_layFar 45 = .ok (.aload_n 0, 1) := by decide +kernel
theorem dX9_layFar_46 : decode cX9_layFar 46 = .ok (.getfield 96, 3) := by decide +kernel
theorem dX9_layFar_49 : decode cX9_layFar 49 = .ok (.iload 4, 2) := by decide +kernel
theorem dX9_layFar_51 : decode cX9_layFar 51 = .ok (.baload, 1) := by decide +kernel
theorem dX9_layFar_52 : decode cX9_layFar 52 = .ok (.ifCond .ne 6, 3) := by decide +kernel
theorem dX9_layFar_55 : decode cX9_layFar 55 = .ok (.goto 22, 3) := by decide +kernel
theorem dX9_layFar_58 : decode cX9_layFar 58 = .ok (.aload_n 0, 1) := by decide +kernel
theorem dX9_layFar_59 : decode cX9_layFar 59 = .ok (.getfield 90, 3) := by decide +kernel
theorem dX9_layFar_62 : decode cX9_layFar 62 = .ok (.iload 4, 2) := by decide +kernel
theorem dX9_layFar_64 : decode cX9_layFar 64 = .ok (.iconst 0, 1) := by decide +kernel
theorem dX9_layFar_65 : decode cX9_layFar 65 = .ok (.iastore, 1) := by decide +kernel
theorem dX9_layFar_66 : decode cX9_layFar 66 = .ok (.aload_n 0, 1) := by decide +kernel
theorem dX9_layFar_67 : decode cX9_layFar 67 = .ok (.getfield 93, 3) := by decide +kernel
theorem dX9_layFar_70 : decode cX9_layFar 70 = .ok (.iload_n 3, 1) := by decide +kernel
theorem dX9_layFar_71 : decode cX9_layFar 71 = .ok (.iload 4, 2) := by decide +kernel
theorem dX9_layFar_73 : decode cX9_layFar 73 = .ok (.iastore, 1) := by decide +kernel
theorem dX9_layFar_74 : decode cX9_layFar 74 = .ok (.iinc 3 1, 3) := by decide +kernel
theorem dX9_layFar_77 : decode cX9_layFar 77 = .ok (.iinc 4 1, 3) := by decide +kernel
theorem dX9_layFar_80 : decode cX9_layFar 80 = .ok (.goto (-75), 3) := by decide +kernel
theorem dX9_layFar_83 : decode cX9_layFar 83 = .ok (.iconst 0, 1) := by decide +kernel
theorem dX9_layFar_84 : decode cX9_layFar 84 = .ok (.istore 4, 2) := by decide +kernel
theorem dX9_layFar_86 : decode cX9_layFar 86 = .ok (.iload 4, 2) := by decide +kernel
theorem dX9_layFar_88 : decode cX9_layFar 88 = .ok (.iload_n 3, 1) := by decide +kernel
theorem dX9_layFar_89 : decode cX9_layFar 89 = .ok (.if_icmp .ge 96, 3) := by decide +kernel
theorem dX9_layFar_92 : decode cX9_layFar 92 = .ok (.aload_n 0, 1) := by decide +kernel
theorem dX9_layFar_93 : decode cX9_layFar 93 = .ok (.getfield 93, 3) := by decide +kernel
theorem dX9_layFar_96 : decode cX9_layFar 96 = .ok (.iload 4, 2) := by decide +kernel
theorem dX9_layFar_98 : decode cX9_layFar 98 = .ok (.iaload, 1) := by decide +kernel
theorem dX9_layFar_99 : decode cX9_layFar 99 = .ok (.istore 5, 2) := by decide +kernel
theorem dX9_layFar_101 : decode cX9_layFar 101 = .ok (.iconst 0, 1) := by decide +kernel
theorem dX9_layFar_102 : decode cX9_layFar 102 = .ok (.istore 6, 2) := by decide +kernel
theorem dX9_layFar_104 : decode cX9_layFar 104 = .ok (.iload 6, 2) := by decide +kernel
theorem dX9_layFar_106 : decode cX9_layFar 106 = .ok (.bipush 16, 2) := by decide +kernel
theorem dX9_layFar_108 : decode cX9_layFar 108 = .ok (.if_icmp .ge 71, 3) := by decide +kernel
theorem dX9_layFar_111 : decode cX9_layFar 111 = .ok (.aload_n 0, 1) := by decide +kernel
theorem dX9_layFar_112 : decode cX9_layFar 112 = .ok (.getfield 96, 3) := by decide +kernel
theorem dX9_layFar_115 : decode cX9_layFar 115 = .ok (.iload 6, 2) := by decide +kernel
theorem dX9_layFar_117 : decode cX9_layFar 117 = .ok (.baload, 1) := by decide +kernel
theorem dX9_layFar_118 : decode cX9_layFar 118 = .ok (.ifCond .eq 55, 3) := by decide +kernel
theorem dX9_layFar_121 : decode cX9_layFar 121 = .ok (.aload_n 0, 1) := by decide +kernel
theorem dX9_layFar_122 : decode cX9_layFar 122 = .ok (.getfield 90, 3) := by decide +kernel
theorem dX9_layFar_125 : decode cX9_layFar 125 = .ok (.iload 6, 2) := by decide +kernel
theorem dX9_layFar_127 : decode cX9_layFar 127 = .ok (.iaload, 1) := by decide +kernel
theorem dX9_layFar_128 : decode cX9_layFar 128 = .ok (.ifCond .ge 45, 3) := by decide +kernel
theorem dX9_layFar_131 : decode cX9_layFar 131 = .ok (.aload_n 0, 1) := by decide +kernel
theorem dX9_layFar_132 : decode cX9_layFar 132 = .ok (.iload_n 1, 1) := by decide +kernel
theorem dX9_layFar_133 : decode cX9_layFar 133 = .ok (.iload 5, 2) := by decide +kernel
theorem dX9_layFar_135 : decode cX9_layFar 135 = .ok (.iload 6, 2) := by decide +kernel
theorem dX9_layFar_137 : decode cX9_layFar 137 = .ok (.invokevirtual 329, 3) := by decide +kernel
theorem dX9_layFar_140 : decode cX9_layFar 140 = .ok (.ifCond .ne 6, 3) := by decide +kernel
theorem dX9_layFar_143 : decode cX9_layFar 143 = .ok (.goto 30, 3) := by decide +kernel
theorem dX9_layFar_146 : decode cX9_layFar 146 = .ok (.aload_n 0, 1) := by decide +kernel
theorem dX9_layFar_147 : decode cX9_layFar 147 = .ok (.getfield 90, 3) := by decide +kernel
theorem dX9_layFar_150 : decode cX9_layFar 150 = .ok (.iload 6, 2) := by decide +kernel
theorem dX9_layFar_152 : decode cX9_layFar 152 = .ok (.aload_n 0, 1) := by decide +kernel
theorem dX9_layFar_153 : decode cX9_layFar 153 = .ok (.getfield 90, 3) := by decide +kernel
theorem dX9_layFar_156 : decode cX9_layFar 156 = .ok (.iload 5, 2) := by decide +kernel
theorem dX9_layFar_158 : decode cX9_layFar 158 = .ok (.iaload, 1) := by decide +kernel
theorem dX9_layFar_159 : decode cX9_layFar 159 = .ok (.iconst 1, 1) := by decide +kernel
theorem dX9_layFar_160 : decode cX9_layFar 160 = .ok (.iadd, 1) := by decide +kernel
theorem dX9_layFar_161 : decode cX9_layFar 161 = .ok (.iastore, 1) := by decide +kernel
theorem dX9_layFar_162 : decode cX9_layFar 162 = .ok (.aload_n 0, 1) := by decide +kernel
theorem dX9_layFar_163 : decode cX9_layFar 163 = .ok (.getfield 93, 3) := by decide +kernel
theorem dX9_layFar_166 : decode cX9_layFar 166 = .ok (.iload_n 3, 1) := by decide +kernel
theorem dX9_layFar_167 : decode cX9_layFar 167 = .ok (.iload 6, 2) := by decide +kernel
theorem dX9_layFar_169 : decode cX9_layFar 169 = .ok (.iastore, 1) := by decide +kernel
theorem dX9_layFar_170 : decode cX9_layFar 170 = .ok (.iinc 3 1, 3) := by decide +kernel
theorem dX9_layFar_173 : decode cX9_layFar 173 = .ok (.iinc 6 1, 3) := by decide +kernel
theorem dX9_layFar_176 : decode cX9_layFar 176 = .ok (.goto (-72), 3) := by decide +kernel
theorem dX9_layFar_179 : decode cX9_layFar 179 = .ok (.iinc 4 1, 3) := by decide +kernel
theorem dX9_layFar_182 : decode cX9_layFar 182 = .ok (.goto (-96), 3) := by decide +kernel
theorem dX9_layFar_185 : decode cX9_layFar 185 = .ok (.return_, 1) := by decide +kernel
theorem dX9_nearSide_0 : decode cX9_nearSide 0 = .ok (.sipush 4369, 3) := by decide +kernel
theorem dX9_nearSide_3 : decode cX9_nearSide 3 = .ok (.ireturn, 1) := by decide +kernel
theorem dX9_farSide_0 : decode cX9_farSide 0 = .ok (.ldc_w 332, 3) := by decide +kernel
theorem dX9_farSide_3 : decode cX9_farSide 3 = .ok (.ireturn, 1) := by decide +kernel
theorem dX9_cross_0 : decode cX9_cross 0 = .ok (.aload_n 0, 1) := by decide +kernel
theorem dX9_cross_1 : decode cX9_cross 1 = .ok (.iload_n 1, 1) := by decide +kernel
theorem dX9_cross_2 : decode cX9_cross 2 = .ok (.aload_n 0, 1) := by decide +kernel
theorem dX9_cross_3 : decode cX9_cross 3 = .ok (.invokevirtual 333, 3) := by decide +kernel
theorem dX9_cross_6 : decode cX9_cross 6 = .ok (.invokevirtual 336, 3) := by decide +kernel
theorem dX9_cross_9 : decode cX9_cross 9 = .ok (.bipush (-5), 2) := by decide +kernel
theorem dX9_cross_11 : decode cX9_cross 11 = .ok (.istore_n 2, 1) := by decide +kernel
theorem dX9_cross_12 : decode cX9_cross 12 = .ok (.iconst 3, 1) := by decide +kernel
theorem dX9_cross_13 : decode cX9_cross 13 = .ok (.istore_n 3, 1) := by decide +kernel
theorem dX9_cross_14 : decode cX9_cross 14 = .ok (.iload_n 3, 1) := by decide +kernel
theorem dX9_cross_15 : decode cX9_cross 15 = .ok (.bipush 16, 2) := by decide +kernel
theorem dX9_cross_17 : decode cX9_cross 17 = .ok (.if_icmp .ge 39, 3) := by decide +kernel
theorem dX9_cross_20 : decode cX9_cross 20 = .ok (.aload_n 0, 1) := by decide +kernel
theorem dX9_cross_21 : decode cX9_cross 21 = .ok (.getfield 90, 3) := by decide +kernel
theorem dX9_cross_24 : decode cX9_cross 24 = .ok (.iload_n 3, 1) := by decide +kernel
theorem dX9_cross_25 : decode cX9_cross 25 = .ok (.iaload, 1) := by decide +kernel
theorem dX9_cross_26 : decode cX9_cross 26 = .ok (.ifCond .lt 24, 3) := by decide +kernel
theorem dX9_cross_29 : decode cX9_cross 29 = .ok (.iload_n 2, 1) := by decide +kernel
theorem dX9_cross_30 : decode cX9_cross 30 = .ok (.ifCond .lt 13, 3) := by decide +kernel
theorem dX9_cross_33 : decode cX9_cross 33 = .ok (.aload_n 0, 1) := by decide +kernel
theorem dX9_cross_34 : decode cX9_cross 34 = .ok (.getfield 90, 3) := by decide +kernel
theorem dX9_cross_37 : decode cX9_cross 37 = .ok (.iload_n 3, 1) := by decide +kernel
theorem dX9_cross_38 : decode cX9_cross 38 = .ok (.iaload, 1) := by decide +kernel
theorem dX9_cross_39 : decode cX9_cross 39 = .ok (.iload_n 2, 1) := by decide +kernel
theorem dX9_cross_40 : decode cX9_cross 40 = .ok (.if_icmp .ge 10, 3) := by decide +kernel
theorem dX9_cross_43 : decode cX9_cross 43 = .ok (.aload_n 0, 1) := by decide +kernel
theorem dX9_cross_44 : decode cX9_cross 44 = .ok (.getfield 90, 3) := by decide +kernel
theorem dX9_cross_47 : decode cX9_cross 47 = .ok (.iload_n 3, 1) := by decide +kernel
theorem dX9_cross_48 : decode cX9_cross 48 = .ok (.iaload, 1) := by decide +kernel
theorem dX9_cross_49 : decode cX9_cross 49 = .ok (.istore_n 2, 1) := by decide +kernel
theorem dX9_cross_50 : decode cX9_cross 50 = .ok (.iinc 3 4, 3) := by decide +kernel
theorem dX9_cross_53 : decode cX9_cross 53 = .ok (.goto (-39), 3) := by decide +kernel
theorem dX9_cross_56 : decode cX9_cross 56 = .ok (.iload_n 2, 1) := by decide +kernel
theorem dX9_cross_57 : decode cX9_cross 57 = .ok (.ireturn, 1) := by decide +kernel
theorem dX9_canCross_0 : decode cX9_canCross 0 = .ok (.aload_n 0, 1) := by decide +kernel
theorem dX9_canCross_1 : decode cX9_canCross 1 = .ok (.iload_n 1, 1) := by decide +kernel
theorem dX9_canCross_2 : decode cX9_canCross 2 = .ok (.invokevirtual 339, 3) := by decide +kernel
theorem dX9_canCross_5 : decode cX9_canCross 5 = .ok (.ifCond .lt 7, 3) := by decide +kernel
theorem dX9_canCross_8 : decode cX9_canCross 8 = .ok (.iconst 1, 1) := by decide +kernel
theorem dX9_canCross_9 : decode cX9_canCross 9 = .ok (.goto 4, 3) := by decide +kernel
theorem dX9_canCross_12 : decode cX9_canCross 12 = .ok (.iconst 0, 1) := by decide +kernel
theorem dX9_canCross_13 : decode cX9_canCross 13 = .ok (.ireturn, 1) := by decide +kernel
theorem dX9_crossers_0 : decode cX9_crossers 0 = .ok (.iconst 0, 1) := by decide +kernel
theorem dX9_crossers_1 : decode cX9_crossers 1 = .ok (.istore_n 1, 1) := by decide +kernel
theorem dX9_crossers_2 : decode cX9_crossers 2 = .ok (.iconst 0, 1) := by decide +kernel
theorem dX9_crossers_3 : decode cX9_crossers 3 = .ok (.istore_n 2, 1) := by decide +kernel
theorem dX9_crossers_4 : decode cX9_crossers 4 = .ok (.iload_n 2, 1) := by decide +kernel
theorem dX9_crossers_5 : decode cX9_crossers 5 = .ok (.aload_n 0, 1) := by decide +kernel
theorem dX9_crossers_6 : decode cX9_crossers 6 = .ok (.getfield 7, 3) := by decide +kernel
theorem dX9_crossers_9 : decode cX9_crossers 9 = .ok (.if_icmp .ge 27, 3) := by decide +kernel
theorem dX9_crossers_12 : decode cX9_crossers 12 = .ok (.iload_n 1, 1) := by decide +kernel
theorem dX9_crossers_13 : decode cX9_crossers 13 = .ok (.aload_n 0, 1) := by decide +kernel
theorem dX9_crossers_14 : decode cX9_crossers 14 = .ok (.iload_n 2, 1) := by decide +kernel
theorem dX9_crossers_15 : decode cX9_crossers 15 = .ok (.invokevirtual 342, 3) := by decide +kernel
theorem dX9_crossers_18 : decode cX9_crossers 18 = .ok (.ifCond .eq 9, 3) := by decide +kernel
theorem dX9_crossers_21 : decode cX9_crossers 21 = .ok (.iconst 1, 1) := by decide +kernel
theorem dX9_crossers_22 : decode cX9_crossers 22 = .ok (.iload_n 2, 1) := by decide +kernel
theorem dX9_crossers_23 : decode cX9_crossers 23 = .ok (.ishl, 1) := by decide +kernel
theorem dX9_crossers_24 : decode cX9_crossers 24 = .ok (.goto 4, 3) := by decide +kernel
theorem dX9_crossers_27 : decode cX9_crossers 27 = .ok (.iconst 0, 1) := by decide +kernel
theorem dX9_crossers_28 : decode cX9_crossers 28 = .ok (.ior, 1) := by decide +kernel
theorem dX9_crossers_29 : decode cX9_crossers 29 = .ok (.istore_n 1, 1) := by decide +kernel
theorem dX9_crossers_30 : decode cX9_crossers 30 = .ok (.iinc 2 1, 3) := by decide +kernel
theorem dX9_crossers_33 : decode cX9_crossers 33 = .ok (.goto (-29), 3) := by decide +kernel
theorem dX9_crossers_36 : decode cX9_crossers 36 = .ok (.iload_n 1, 1) := by decide +kernel
theorem dX9_crossers_37 : decode cX9_crossers 37 = .ok (.ireturn, 1) := by decide +kernel
theorem dX9_allStrong_0 : decode cX9_allStrong 0 = .ok (.iconst 0, 1) := by decide +kernel
theorem dX9_allStrong_1 : decode cX9_allStrong 1 = .ok (.istore_n 1, 1) := by decide +kernel
theorem dX9_allStrong_2 : decode cX9_allStrong 2 = .ok (.iconst 0, 1) := by decide +kernel
theorem dX9_allStrong_3 : decode cX9_allStrong 3 = .ok (.istore_n 2, 1) := by decide +kernel
theorem dX9_allStrong_4 : decode cX9_allStrong 4 = .ok (.iload_n 2, 1) := by decide +kernel
theorem dX9_allStrong_5 : decode cX9_allStrong 5 = .ok (.bipush 16, 2) := by decide +kernel
theorem dX9_allStrong_7 : decode cX9_allStrong 7 = .ok (.if_icmp .ge 18, 3) := by decide +kernel
theorem dX9_allStrong_10 : decode cX9_allStrong 10 = .ok (.iload_n 1, 1) := by decide +kernel
theorem dX9_allStrong_11 : decode cX9_allStrong 11 = .ok (.aload_n 0, 1) := by decide +kernel
theorem dX9_allStrong_12 : decode cX9_allStrong 12 = .ok (.getfield 16, 3) := by decide +kernel
theorem dX9_allStrong_15 : decode cX9_allStrong 15 = .ok (.iload_n 2, 1) := by decide +kernel
theorem dX9_allStrong_16 : decode cX9_allStrong 16 = .ok (.iaload, 1) := by decide +kernel
theorem dX9_allStrong_17 : decode cX9_allStrong 17 = .ok (.iadd, 1) := by decide +kernel
theorem dX9_allStrong_18 : decode cX9_allStrong 18 = .ok (.istore_n 1, 1) := by decide +kernel
theorem dX9_allStrong_19 : decode cX9_allStrong 19 = .ok (.iinc 2 1, 3) := by decide +kernel
theorem dX9_allStrong_22 : decode cX9_allStrong 22 = .ok (.goto (-18), 3) := by decide +kernel
theorem dX9_allStrong_25 : decode cX9_allStrong 25 = .ok (.iload_n 1, 1) := by decide +kernel
theorem dX9_allStrong_26 : decode cX9_allStrong 26 = .ok (.ireturn, 1) := by decide +kernel
theorem dX9_whose_0 : decode cX9_whose 0 = .ok (.iconst 0, 1) := by decide +kernel
theorem dX9_whose_1 : decode cX9_whose 1 = .ok (.istore_n 1, 1) := by decide +kernel
theorem dX9_whose_2 : decode cX9_whose 2 = .ok (.iconst 0, 1) := by decide +kernel
theorem dX9_whose_3 : decode cX9_whose 3 = .ok (.istore_n 2, 1) := by decide +kernel
theorem dX9_whose_4 : decode cX9_whose 4 = .ok (.iload_n 2, 1) := by decide +kernel
theorem dX9_whose_5 : decode cX9_whose 5 = .ok (.aload_n 0, 1) := by decide +kernel
theorem dX9_whose_6 : decode cX9_whose 6 = .ok (.getfield 7, 3) := by decide +kernel
theorem dX9_whose_9 : decode cX9_whose 9 = .ok (.if_icmp .ge 74, 3) := by decide +kernel
theorem dX9_whose_12 : decode cX9_whose 12 = .ok (.iconst 1, 1) := by decide +kernel
theorem dX9_whose_13 : decode cX9_whose 13 = .ok (.istore_n 3, 1) := by decide +kernel
theorem dX9_whose_14 : decode cX9_whose 14 = .ok (.iconst 0, 1) := by decide +kernel
theorem dX9_whose_15 : decode cX9_whose 15 = .ok (.istore 4, 2) := by decide +kernel
theorem dX9_whose_17 : decode cX9_whose 17 = .ok (.iload 4, 2) := by decide +kernel
theorem dX9_whose_19 : decode cX9_whose 19 = .ok (.bipush 16, 2) := by decide +kernel
theorem dX9_whose_21 : decode cX9_whose 21 = .ok (.if_icmp .ge 42, 3) := by decide +kernel
theorem dX9_whose_24 : decode cX9_whose 24 = .ok (.iload_n 3, 1) := by decide +kernel
theorem dX9_whose_25 : decode cX9_whose 25 = .ok (.ifCond .eq 30, 3) := by decide +kernel
theorem dX9_whose_28 : decode cX9_whose 28 = .ok (.aload_n 0, 1) := by decide +kernel
theorem dX9_whose_29 : decode cX9_whose 29 = .ok (.aload_n 0, 1) := by decide +kernel
theorem dX9_whose_30 : decode cX9_whose 30 = .ok (.getfield 99, 3) := by decide +kernel
theorem dX9_whose_33 : decode cX9_whose 33 = .ok (.iload 4, 2) := by decide +kernel
theorem dX9_whose_35 : decode cX9_whose 35 = .ok (.invokevirtual 320, 3) := by decide +kernel
theorem dX9_whose_38 : decode cX9_whose 38 = .ok (.ifCond .eq 13, 3) := by decide +kernel
theorem dX9_whose_41 : decode cX9_whose 41 = .ok (.aload_n 0, 1) := by decide +kernel
theorem dX9_whose_42 : decode cX9_whose 42 = .ok (.iload 4, 2) := by decide +kernel
theorem dX9_whose_44 : decode cX9_whose 44 = .ok (.iload_n 2, 1) := by decide +kernel
theorem dX9_whose_45 : decode cX9_whose 45 = .ok (.invokevirtual 326, 3) := by decide +kernel
theorem dX9_whose_48 : decode cX9_whose 48 = .ok (.ifCond .eq 7, 3) := by decide +kernel
theorem dX9_whose_51 : decode cX9_whose 51 = .ok (.iconst 1, 1) := by decide +kernel
theorem dX9_whose_52 : decode cX9_whose 52 = .ok (.goto 4, 3) := by decide +kernel
theorem dX9_whose_55 : decode cX9_whose 55 = .ok (.iconst 0, 1) := by decide +kernel
theorem dX9_whose_56 : decode cX9_whose 56 = .ok (.istore_n 3, 1) := by decide +kernel
theorem dX9_whose_57 : decode cX9_whose 57 = .ok (.iinc 4 1, 3) := by decide +kernel
theorem dX9_whose_60 : decode cX9_whose 60 = .ok (.goto (-43), 3) := by decide +kernel
theorem dX9_whose_63 : decode cX9_whose 63 = .ok (.iload_n 1, 1) := by decide +kernel
theorem dX9_whose_64 : decode cX9_whose 64 = .ok (.iload_n 3, 1) := by decide +kernel
theorem dX9_whose_65 : decode cX9_whose 65 = .ok (.ifCond .eq 9, 3) := by decide +kernel
theorem dX9_whose_68 : decode cX9_whose 68 = .ok (.iconst 1, 1) := by decide +kernel
theorem dX9_whose_69 : decode cX9_whose 69 = .ok (.iload_n 2, 1) := by decide +kernel
theorem dX9_whose_70 : decode cX9_whose 70 = .ok (.ishl, 1) := by decide +kernel
theorem dX9_whose_71 : decode cX9_whose 71 = .ok (.goto 4, 3) := by decide +kernel
theorem dX9_whose_74 : decode cX9_whose 74 = .ok (.iconst 0, 1) := by decide +kernel
theorem dX9_whose_75 : decode cX9_whose 75 = .ok (.ior, 1) := by decide +kernel
theorem dX9_whose_76 : decode cX9_whose 76 = .ok (.istore_n 1, 1) := by decide +kernel
theorem dX9_whose_77 : decode cX9_whose 77 = .ok (.iinc 2 1, 3) := by decide +kernel
theorem dX9_whose_80 : decode cX9_whose 80 = .ok (.goto (-76), 3) := by decide +kernel
theorem dX9_whose_83 : decode cX9_whose 83 = .ok (.iload_n 1, 1) := by decide +kernel
theorem dX9_whose_84 : decode cX9_whose 84 = .ok (.ireturn, 1) := by decide +kernel
theorem dX9_of_0 : decode cX9_of 0 = .ok (.aload_n 0, 1) := by decide +kernel
theorem dX9_of_1 : decode cX9_of 1 = .ok (.iload_n 1, 1) := by decide +kernel
theorem dX9_of_2 : decode cX9_of 2 = .ok (.invokevirtual 235, 3) := by decide +kernel
theorem dX9_of_5 : decode cX9_of 5 = .ok (.ifCond .ne 5, 3) := by decide +kernel
theorem dX9_of_8 : decode cX9_of 8 = .ok (.iconst (-1), 1) := by decide +kernel
theorem dX9_of_9 : decode cX9_of 9 = .ok (.ireturn, 1) := by decide +kernel
theorem dX9_of_10 : decode cX9_of 10 = .ok (.aload_n 0, 1) := by decide +kernel
theorem dX9_of_11 : decode cX9_of 11 = .ok (.iload_n 2, 1) := by decide +kernel
theorem dX9_of_12 : decode cX9_of 12 = .ok (.bipush 10, 2) := by decide +kernel
theorem dX9_of_14 : decode cX9_of 14 = .ok (.bipush 25, 2) := by decide +kernel
theorem dX9_of_16 : decode cX9_of 16 = .ok (.invokevirtual 224, 3) := by decide +kernel
theorem dX9_of_19 : decode cX9_of 19 = .ok (.ifCond .eq 13, 3) := by decide +kernel
theorem dX9_of_22 : decode cX9_of 22 = .ok (.aload_n 0, 1) := by decide +kernel
theorem dX9_of_23 : decode cX9_of 23 = .ok (.iload_n 1, 1) := by decide +kernel
theorem dX9_of_24 : decode cX9_of 24 = .ok (.iload_n 2, 1) := by decide +kernel
theorem dX9_of_25 : decode cX9_of 25 = .ok (.bipush 10, 2) := by decide +kernel
theorem dX9_of_27 : decode cX9_of 27 = .ok (.isub, 1) := by decide +kernel
theorem dX9_of_28 : decode cX9_of 28 = .ok (.invokevirtual 323, 3) := by decide +kernel
theorem dX9_of_31 : decode cX9_of 31 = .ok (.ireturn, 1) := by decide +kernel
theorem dX9_of_32 : decode cX9_of 32 = .ok (.iload_n 2, 1) := by decide +kernel
theorem dX9_of_33 : decode cX9_of 33 = .ok (.tableswitch 58 0 3 #[31, 38, 45, 52], 31) := by decide +kernel
theorem dX9_of_64 : decode cX9_of 64 = .ok (.aload_n 0, 1) := by decide +kernel
theorem dX9_of_65 : decode cX9_of 65 = .ok (.getfield 20, 3) := by decide +kernel
theorem dX9_of_68 : decode cX9_of 68 = .ok (.iload_n 1, 1) := by decide +kernel
theorem dX9_of_69 : decode cX9_of 69 = .ok (.iaload, 1) := by decide +kernel
theorem dX9_of_70 : decode cX9_of 70 = .ok (.ireturn, 1) := by decide +kernel
theorem dX9_of_71 : decode cX9_of 71 = .ok (.aload_n 0, 1) := by decide +kernel
theorem dX9_of_72 : decode cX9_of 72 = .ok (.getfield 23, 3) := by decide +kernel
theorem dX9_of_75 : decode cX9_of 75 = .ok (.iload_n 1, 1) := by decide +kernel
theorem dX9_of_76 : decode cX9_of 76 = .ok (.iaload, 1) := by decide +kernel
theorem dX9_of_77 : decode cX9_of 77 = .ok (.ireturn, 1) := by decide +kernel
theorem dX9_of_78 : decode cX9_of 78 = .ok (.aload_n 0, 1) := by decide +kernel
theorem dX9_of_79 : decode cX9_of 79 = .ok (.getfield 26, 3) := by decide +kernel
theorem dX9_of_82 : decode cX9_of 82 = .ok (.iload_n 1, 1) := by decide +kernel
theorem dX9_of_83 : decode cX9_of 83 = .ok (.iaload, 1) := by decide +kernel
theorem dX9_of_84 : decode cX9_of 84 = .ok (.ireturn, 1) := by decide +kernel
theorem dX9_of_85 : decode cX9_of 85 = .ok (.aload_n 0, 1) := by decide +kernel
theorem dX9_of_86 : decode cX9_of 86 = .ok (.iload_n 1, 1) := by decide +kernel
theorem dX9_of_87 : decode cX9_of 87 = .ok (.invokevirtual 339, 3) := by decide +kernel
theorem dX9_of_90 : decode cX9_of 90 = .ok (.ireturn, 1) := by decide +kernel
theorem dX9_of_91 : decode cX9_of 91 = .ok (.iconst (-1), 1) := by decide +kernel
theorem dX9_of_92 : decode cX9_of 92 = .ok (.ireturn, 1) := by decide +kernel
theorem dX9_at_0 : decode cX9_at 0 = .ok (.aload_n 0, 1) := by decide +kernel
theorem dX9_at_1 : decode cX9_at 1 = .ok (.iload_n 1, 1) := by decide +kernel
theorem dX9_at_2 : decode cX9_at 2 = .ok (.invokevirtual 232, 3) := by decide +kernel
theorem dX9_at_5 : decode cX9_at 5 = .ok (.ifCond .ne 7, 3) := by decide +kernel
theorem dX9_at_8 : decode cX9_at 8 = .ok (.sipush (-1001), 3) := by decide +kernel
theorem dX9_at_11 : decode cX9_at 11 = .ok (.ireturn, 1) := by decide +kernel
theorem dX9_at_12 : decode cX9_at 12 = .ok (.iload_n 2, 1) := by decide +kernel
theorem dX9_at_13 : decode cX9_at 13 = .ok (.ifCond .ne 10, 3) := by decide +kernel
theorem dX9_at_16 : decode cX9_at 16 = .ok (.aload_n 0, 1) := by decide +kernel
theorem dX9_at_17 : decode cX9_at 17 = .ok (.getfield 16, 3) := by decide +kernel
theorem dX9_at_20 : decode cX9_at 20 = .ok (.iload_n 1, 1) := by decide +kernel
theorem dX9_at_21 : decode cX9_at 21 = .ok (.iaload, 1) := by decide +kernel
theorem dX9_at_22 : decode cX9_at 22 = .ok (.ireturn, 1) := by decide +kernel
theorem dX9_at_23 : decode cX9_at 23 = .ok (.iload_n 2, 1) := by decide +kernel
theorem dX9_at_24 : decode cX9_at 24 = .ok (.iconst 1, 1) := by decide +kernel
theorem dX9_at_25 : decode cX9_at 25 = .ok (.if_icmp .ne 9, 3) := by decide +kernel
theorem dX9_at_28 : decode cX9_at 28 = .ok (.aload_n 0, 1) := by decide +kernel
theorem dX9_at_29 : decode cX9_at 29 = .ok (.iload_n 1, 1) := by decide +kernel
theorem dX9_at_30 : decode cX9_at 30 = .ok (.invokevirtual 345, 3) := by decide +kernel
theorem dX9_at_33 : decode cX9_at 33 = .ok (.ireturn, 1) := by decide +kernel
theorem dX9_at_34 : decode cX9_at 34 = .ok (.iload_n 2, 1) := by decide +kernel
theorem dX9_at_35 : decode cX9_at 35 = .ok (.iconst 2, 1) := by decide +kernel
theorem dX9_at_36 : decode cX9_at 36 = .ok (.if_icmp .eq 7, 3) := by decide +kernel
theorem dX9_at_39 : decode cX9_at 39 = .ok (.sipush (-1001), 3) := by decide +kernel
theorem dX9_at_42 : decode cX9_at 42 = .ok (.ireturn, 1) := by decide +kernel
theorem dX9_at_43 : decode cX9_at 43 = .ok (.iconst 0, 1) := by decide +kernel
theorem dX9_at_44 : decode cX9_at 44 = .ok (.istore_n 3, 1) := by decide +kernel
theorem dX9_at_45 : decode cX9_at 45 = .ok (.iconst 0, 1) := by decide +kernel
theorem dX9_at_46 : decode cX9_at 46 = .ok (.istore 4, 2) := by decide +kernel
theorem dX9_at_48 : decode cX9_at 48 = .ok (.iload 4, 2) := by decide +kernel
theorem dX9_at_50 : decode cX9_at 50 = .ok (.aload_n 0, 1) := by decide +kernel
theorem dX9_at_51 : decode cX9_at 51 = .ok (.getfield 7, 3) := by decide +kernel
theorem dX9_at_54 : decode cX9_at 54 = .ok (.if_icmp .ge 30, 3) := by decide +kernel
theorem dX9_at_57 : decode cX9_at 57 = .ok (.iload_n 3, 1) := by decide +kernel
theorem dX9_at_58 : decode cX9_at 58 = .ok (.aload_n 0, 1) := by decide +kernel
theorem dX9_at_59 : decode cX9_at 59 = .ok (.iload_n 1, 1) := by decide +kernel
theorem dX9_at_60 : decode cX9_at 60 = .ok (.iload 4, 2) := by decide +kernel
theorem dX9_at_62 : decode cX9_at 62 = .ok (.invokevirtual 326, 3) := by decide +kernel
theorem dX9_at_65 : decode cX9_at 65 = .ok (.ifCond .eq 10, 3) := by decide +kernel
theorem dX9_at_68 : decode cX9_at 68 = .ok (.iconst 1, 1) := by decide +kernel
theorem dX9_at_69 : decode cX9_at 69 = .ok (.iload 4, 2) := by decide +kernel
theorem dX9_at_71 : decode cX9_at 71 = .ok (.ishl, 1) := by decide +kernel
theorem dX9_at_72 : decode cX9_at 72 = .ok (.goto 4, 3) := by decide +kernel
theorem dX9_at_75 : decode cX9_at 75 = .ok (.iconst 0, 1) := by decide +kernel
theorem dX9_at_76 : decode cX9_at 76 = .ok (.ior, 1) := by decide +kernel
theorem dX9_at_77 : decode cX9_at 77 = .ok (.istore_n 3, 1) := by decide +kernel
theorem dX9_at_78 : decode cX9_at 78 = .ok (.iinc 4 1, 3) := by decide +kernel
theorem dX9_at_81 : decode cX9_at 81 = .ok (.goto (-33), 3) := by decide +kernel
theorem dX9_at_84 : decode cX9_at 84 = .ok (.iload_n 3, 1) := by decide +kernel
theorem dX9_at_85 : decode cX9_at 85 = .ok (.ireturn, 1) := by decide +kernel
theorem dX9_milk_0 : decode cX9_milk 0 = .ok (.aload_n 0, 1) := by decide +kernel
theorem dX9_milk_1 : decode cX9_milk 1 = .ok (.iload_n 1, 1) := by decide +kernel
theorem dX9_milk_2 : decode cX9_milk 2 = .ok (.invokevirtual 232, 3) := by decide +kernel
theorem dX9_milk_5 : decode cX9_milk 5 = .ok (.ifCond .ne 5, 3) := by decide +kernel
theorem dX9_milk_8 : decode cX9_milk 8 = .ok (.iconst (-1), 1) := by decide +kernel
theorem dX9_milk_9 : decode cX9_milk 9 = .ok (.ireturn, 1) := by decide +kernel
theorem dX9_milk_10 : decode cX9_milk 10 = .ok (.aload_n 0, 1) := by decide +kernel
theorem dX9_milk_11 : decode cX9_milk 11 = .ok (.getfield 16, 3) := by decide +kernel
theorem dX9_milk_14 : decode cX9_milk 14 = .ok (.iload_n 1, 1) := by decide +kernel
theorem dX9_milk_15 : decode cX9_milk 15 = .ok (.aload_n 0, 1) := by decide +kernel
theorem dX9_milk_16 : decode cX9_milk 16 = .ok (.iload_n 1, 1) := by decide +kernel
theorem dX9_milk_17 : decode cX9_milk 17 = .ok (.invokevirtual 348, 3) := by decide +kernel
theorem dX9_milk_20 : decode cX9_milk 20 = .ok (.iastore, 1) := by decide +kernel
theorem dX9_milk_21 : decode cX9_milk 21 = .ok (.aload_n 0, 1) := by decide +kernel
theorem dX9_milk_22 : decode cX9_milk 22 = .ok (.getfield 16, 3) := by decide +kernel
theorem dX9_milk_25 : decode cX9_milk 25 = .ok (.iload_n 1, 1) := by decide +kernel
theorem dX9_milk_26 : decode cX9_milk 26 = .ok (.iaload, 1) := by decide +kernel
theorem dX9_milk_27 : decode cX9_milk 27 = .ok (.ireturn, 1) := by decide +kernel
theorem dX9_told_0 : decode cX9_told 0 = .ok (.iload_n 1, 1) := by decide +kernel
theorem dX9_told_1 : decode cX9_told 1 = .ok (.tableswitch 72 0 5 #[39, 44, 49, 57, 62, 67], 39) := by decide +kernel
theorem dX9_told_40 : decode cX9_told 40 = .ok (.aload_n 0, 1) := by decide +kernel
theorem dX9_told_41 : decode cX9_told 41 = .ok (.getfield 13, 3) := by decide +kernel
theorem dX9_told_44 : decode cX9_told 44 = .ok (.ireturn, 1) := by decide +kernel
theorem dX9_told_45 : decode cX9_told 45 = .ok (.aload_n 0, 1) := by decide +kernel
theorem dX9_told_46 : decode cX9_told 46 = .ok (.invokevirtual 317, 3) := by decide +kernel
theorem dX9_told_49 : decode cX9_told 49 = .ok (.ireturn, 1) := by decide +kernel
theorem dX9_told_50 : decode cX9_told 50 = .ok (.aload_n 0, 1) := by decide +kernel
theorem dX9_told_51 : decode cX9_told 51 = .ok (.iconst 3, 1) := by decide +kernel
theorem dX9_told_52 : decode cX9_told 52 = .ok (.bipush 10, 2) := by decide +kernel
theorem dX9_told_54 : decode cX9_told 54 = .ok (.invokevirtual 305, 3) := by decide +kernel
theorem dX9_told_57 : decode cX9_told 57 = .ok (.ireturn, 1) := by decide +kernel
theorem dX9_told_58 : decode cX9_told 58 = .ok (.aload_n 0, 1) := by decide +kernel
theorem dX9_told_59 : decode cX9_told 59 = .ok (.invokevirtual 351, 3) := by decide +kernel
theorem dX9_told_62 : decode cX9_told 62 = .ok (.ireturn, 1) := by decide +kernel
theorem dX9_told_63 : decode cX9_told 63 = .ok (.aload_n 0, 1) := by decide +kernel
theorem dX9_told_64 : decode cX9_told 64 = .ok (.invokevirtual 354, 3) := by decide +kernel
theorem dX9_told_67 : decode cX9_told 67 = .ok (.ireturn, 1) := by decide +kernel
theorem dX9_told_68 : decode cX9_told 68 = .ok (.aload_n 0, 1) := by decide +kernel
theorem dX9_told_69 : decode cX9_told 69 = .ok (.invokevirtual 357, 3) := by decide +kernel
theorem dX9_told_72 : decode cX9_told 72 = .ok (.ireturn, 1) := by decide +kernel
theorem dX9_told_73 : decode cX9_told 73 = .ok (.iconst (-1), 1) := by decide +kernel
theorem dX9_told_74 : decode cX9_told 74 = .ok (.ireturn, 1) := by decide +kernel
theorem dX9_print_0 : decode cX9_print 0 = .ok (.aload_n 0, 1) := by decide +kernel
theorem dX9_print_1 : decode cX9_print 1 = .ok (.iload_n 1, 1) := by decide +kernel
theorem dX9_print_2 : decode cX9_print 2 = .ok (.iconst 0, 1) := by decide +kernel
theorem dX9_print_3 : decode cX9_print 3 = .ok (.ldc_w 360, 3) := by decide +kernel
theorem dX9_print_6 : decode cX9_print 6 = .ok (.invokevirtual 224, 3) := by decide +kernel
theorem dX9_print_9 : decode cX9_print 9 = .ok (.ifCond .ne 6, 3) := by decide +kernel
theorem dX9_print_12 : decode cX9_print 12 = .ok (.bipush (-2), 2) := by decide +kernel
theorem dX9_print_14 : decode cX9_print 14 = .ok (.ireturn, 1) := by decide +kernel
theorem dX9_print_15 : decode cX9_print 15 = .ok (.aload_n 0, 1) := by decide +kernel
theorem dX9_print_16 : decode cX9_print 16 = .ok (.getfield 99, 3) := by decide +kernel
theorem dX9_print_19 : decode cX9_print 19 = .ok (.istore_n 2, 1) := by decide +kernel
theorem dX9_print_20 : decode cX9_print 20 = .ok (.aload_n 0, 1) := by decide +kernel
theorem dX9_print_21 : decode cX9_print 21 = .ok (.iload_n 1, 1) := by decide +kernel
theorem dX9_print_22 : decode cX9_print 22 = .ok (.putfield 99, 3) := by decide +kernel
theorem dX9_print_25 : decode cX9_print 25 = .ok (.iload_n 2, 1) := by decide +kernel
theorem dX9_print_26 : decode cX9_print 26 = .ok (.ireturn, 1) := by decide +kernel
theorem dX9_goCell_0 : decode cX9_goCell 0 = .ok (.aload_n 0, 1) := by decide +kernel
theorem dX9_goCell_1 : decode cX9_goCell 1 = .ok (.aload_n 0, 1) := by decide +kernel
theorem dX9_goCell_2 : decode cX9_goCell 2 = .ok (.getfield 16, 3) := by decide +kernel
theorem dX9_goCell_5 : decode cX9_goCell 5 = .ok (.iload_n 1, 1) := by decide +kernel
theorem dX9_goCell_6 : decode cX9_goCell 6 = .ok (.iaload, 1) := by decide +kernel
theorem dX9_goCell_7 : decode cX9_goCell 7 = .ok (.aload_n 0, 1) := by decide +kernel
theorem dX9_goCell_8 : decode cX9_goCell 8 = .ok (.iload_n 1, 1) := by decide +kernel
theorem dX9_goCell_9 : decode cX9_goCell 9 = .ok (.invokevirtual 345, 3) := by decide +kernel
theorem dX9_goCell_12 : decode cX9_goCell 12 = .ok (.iadd, 1) := by decide +kernel
theorem dX9_goCell_13 : decode cX9_goCell 13 = .ok (.invokevirtual 308, 3) := by decide +kernel
theorem dX9_goCell_16 : decode cX9_goCell 16 = .ok (.istore_n 2, 1) := by decide +kernel
theorem dX9_goCell_17 : decode cX9_goCell 17 = .ok (.aload_n 0, 1) := by decide +kernel
theorem dX9_goCell_18 : decode cX9_goCell 18 = .ok (.getfield 16, 3) := by decide +kernel
theorem dX9_goCell_21 : decode cX9_goCell 21 = .ok (.iload_n 1, 1) := by decide +kernel
theorem dX9_goCell_22 : decode cX9_goCell 22 = .ok (.iload_n 2, 1) := by decide +kernel
theorem dX9_goCell_23 : decode cX9_goCell 23 = .ok (.bipush 99, 2) := by decide +kernel
theorem dX9_goCell_25 : decode cX9_goCell 25 = .ok (.if_icmp .le 8, 3) := by decide +kernel
theorem dX9_goCell_28 : decode cX9_goCell 28 = .ok (.bipush 99, 2) := by decide +kernel
theorem dX9_goCell_30 : decode cX9_goCell 30 = .ok (.goto 4, 3) := by decide +kernel
theorem dX9_goCell_33 : decode cX9_goCell 33 = .ok (.iload_n 2, 1) := by decide +kernel
theorem dX9_goCell_34 : decode cX9_goCell 34 = .ok (.iastore, 1) := by decide +kernel
theorem dX9_goCell_35 : decode cX9_goCell 35 = .ok (.return_, 1) := by decide +kernel
theorem dX9_goMinute_0 : decode cX9_goMinute 0 = .ok (.iconst 0, 1) := by decide +kernel
theorem dX9_goMinute_1 : decode cX9_goMinute 1 = .ok (.istore_n 1, 1) := by decide +kernel
theorem dX9_goMinute_2 : decode cX9_goMinute 2 = .ok (.iload_n 1, 1) := by decide +kernel
theorem dX9_goMinute_3 : decode cX9_goMinute 3 = .ok (.bipush 16, 2) := by decide +kernel
theorem dX9_goMinute_5 : decode cX9_goMinute 5 = .ok (.if_icmp .ge 14, 3) := by decide +kernel
theorem dX9_goMinute_8 : decode cX9_goMinute 8 = .ok (.aload_n 0, 1) := by decide +kernel
theorem dX9_goMinute_9 : decode cX9_goMinute 9 = .ok (.iload_n 1, 1) := by decide +kernel
theorem dX9_goMinute_10 : decode cX9_goMinute 10 = .ok (.invokevirtual 361, 3) := by decide +kernel
theorem dX9_goMinute_13 : decode cX9_goMinute 13 = .ok (.iinc 1 1, 3) := by decide +kernel
theorem dX9_goMinute_16 : decode cX9_goMinute 16 = .ok (.goto (-14), 3) := by decide +kernel
theorem dX9_goMinute_19 : decode cX9_goMinute 19 = .ok (.aload_n 0, 1) := by decide +kernel
theorem dX9_goMinute_20 : decode cX9_goMinute 20 = .ok (.dup, 1) := by decide +kernel
theorem dX9_goMinute_21 : decode cX9_goMinute 21 = .ok (.getfield 13, 3) := by decide +kernel
theorem dX9_goMinute_24 : decode cX9_goMinute 24 = .ok (.iconst 1, 1) := by decide +kernel
theorem dX9_goMinute_25 : decode cX9_goMinute 25 = .ok (.iadd, 1) := by decide +kernel
theorem dX9_goMinute_26 : decode cX9_goMinute 26 = .ok (.putfield 13, 3) := by decide +kernel
theorem dX9_goMinute_29 : decode cX9_goMinute 29 = .ok (.return_, 1) := by decide +kernel
theorem dX9_goMinutes_0 : decode cX9_goMinutes 0 = .ok (.iconst 0, 1) := by decide +kernel
theorem dX9_goMinutes_1 : decode cX9_goMinutes 1 = .ok (.istore_n 2, 1) := by decide +kernel
theorem dX9_goMinutes_2 : decode cX9_goMinutes 2 = .ok (.iload_n 2, 1) := by decide +kernel
theorem dX9_goMinutes_3 : decode cX9_goMinutes 3 = .ok (.iload_n 1, 1) := by decide +kernel
theorem dX9_goMinutes_4 : decode cX9_goMinutes 4 = .ok (.if_icmp .ge 13, 3) := by decide +kernel
theorem dX9_goMinutes_7 : decode cX9_goMinutes 7 = .ok (.aload_n 0, 1) := by decide +kernel
theorem dX9_goMinutes_8 : decode cX9_goMinutes 8 = .ok (.invokevirtual 364, 3) := by decide +kernel
theorem dX9_goMinutes_11 : decode cX9_goMinutes 11 = .ok (.iinc 2 1, 3) := by decide +kernel
theorem dX9_goMinutes_14 : decode cX9_goMinutes 14 = .ok (.goto (-12), 3) := by decide +kernel
theorem dX9_goMinutes_17 : decode cX9_goMinutes 17 = .ok (.return_, 1) := by decide +kernel
theorem dX9_pass_0 : decode cX9_pass 0 = .ok (.aload_n 0, 1) := by decide +kernel
theorem dX9_pass_1 : decode cX9_pass 1 = .ok (.iload_n 1, 1) := by decide +kernel
theorem dX9_pass_2 : decode cX9_pass 2 = .ok (.invokevirtual 367, 3) := by decide +kernel
theorem dX9_pass_5 : decode cX9_pass 5 = .ok (.ifCond .ne 6, 3) := by decide +kernel
theorem dX9_pass_8 : decode cX9_pass 8 = .ok (.bipush (-2), 2) := by decide +kernel
theorem dX9_pass_10 : decode cX9_pass 10 = .ok (.ireturn, 1) := by decide +kernel
theorem dX9_pass_11 : decode cX9_pass 11 = .ok (.aload_n 0, 1) := by decide +kernel
theorem dX9_pass_12 : decode cX9_pass 12 = .ok (.getfield 13, 3) := by decide +kernel
theorem dX9_pass_15 : decode cX9_pass 15 = .ok (.iload_n 1, 1) := by decide +kernel
theorem dX9_pass_16 : decode cX9_pass 16 = .ok (.iadd, 1) := by decide +kernel
theorem dX9_pass_17 : decode cX9_pass 17 = .ok (.sipush 9999, 3) := by decide +kernel
theorem dX9_pass_20 : decode cX9_pass 20 = .ok (.if_icmp .le 6, 3) := by decide +kernel
theorem dX9_pass_23 : decode cX9_pass 23 = .ok (.bipush (-3), 2) := by decide +kernel
theorem dX9_pass_25 : decode cX9_pass 25 = .ok (.ireturn, 1) := by decide +kernel
theorem dX9_pass_26 : decode cX9_pass 26 = .ok (.aload_n 0, 1) := by decide +kernel
theorem dX9_pass_27 : decode cX9_pass 27 = .ok (.iload_n 1, 1) := by decide +kernel
theorem dX9_pass_28 : decode cX9_pass 28 = .ok (.invokevirtual 370, 3) := by decide +kernel
theorem dX9_pass_31 : decode cX9_pass 31 = .ok (.aload_n 0, 1) := by decide +kernel
theorem dX9_pass_32 : decode cX9_pass 32 = .ok (.getfield 13, 3) := by decide +kernel
theorem dX9_pass_35 : decode cX9_pass 35 = .ok (.ireturn, 1) := by decide +kernel
theorem dX9_save_0 : decode cX9_save 0 = .ok (.aload_n 0, 1) := by decide +kernel
theorem dX9_save_1 : decode cX9_save 1 = .ok (.aload_n 0, 1) := by decide +kernel
theorem dX9_save_2 : decode cX9_save 2 = .ok (.getfield 13, 3) := by decide +kernel
theorem dX9_save_5 : decode cX9_save 5 = .ok (.putfield 102, 3) := by decide +kernel
theorem dX9_save_8 : decode cX9_save 8 = .ok (.iconst 0, 1) := by decide +kernel
theorem dX9_save_9 : decode cX9_save 9 = .ok (.istore_n 1, 1) := by decide +kernel
theorem dX9_save_10 : decode cX9_save 10 = .ok (.iload_n 1, 1) := by decide +kernel
theorem dX9_save_11 : decode cX9_save 11 = .ok (.bipush 16, 2) := by decide +kernel
theorem dX9_save_13 : decode cX9_save 13 = .ok (.if_icmp .ge 21, 3) := by decide +kernel
theorem dX9_save_16 : decode cX9_save 16 = .ok (.aload_n 0, 1) := by decide +kernel
theorem dX9_save_17 : decode cX9_save 17 = .ok (.getfield 105, 3) := by decide +kernel
theorem dX9_save_20 : decode cX9_save 20 = .ok (.iload_n 1, 1) := by decide +kernel
theorem dX9_save_21 : decode cX9_save 21 = .ok (.aload_n 0, 1) := by decide +kernel
theorem dX9_save_22 : decode cX9_save 22 = .ok (.getfield 16, 3) := by decide +kernel
theorem dX9_save_25 : decode cX9_save 25 = .ok (.iload_n 1, 1) := by decide +kernel
theorem dX9_save_26 : decode cX9_save 26 = .ok (.iaload, 1) := by decide +kernel
theorem dX9_save_27 : decode cX9_save 27 = .ok (.iastore, 1) := by decide +kernel
theorem dX9_save_28 : decode cX9_save 28 = .ok (.iinc 1 1, 3) := by decide +kernel
theorem dX9_save_31 : decode cX9_save 31 = .ok (.goto (-21), 3) := by decide +kernel
theorem dX9_save_34 : decode cX9_save 34 = .ok (.return_, 1) := by decide +kernel
theorem dX9_putBack_0 : decode cX9_putBack 0 = .ok (.aload_n 0, 1) := by decide +kernel
theorem dX9_putBack_1 : decode cX9_putBack 1 = .ok (.aload_n 0, 1) := by decide +kernel
theorem dX9_putBack_2 : decode cX9_putBack 2 = .ok (.getfield 102, 3) := by decide +kernel
theorem dX9_putBack_5 : decode cX9_putBack 5 = .ok (.putfield 13, 3) := by decide +kernel
theorem dX9_putBack_8 : decode cX9_putBack 8 = .ok (.iconst 0, 1) := by decide +kernel
theorem dX9_putBack_9 : decode cX9_putBack 9 = .ok (.istore_n 1, 1) := by decide +kernel
theorem dX9_putBack_10 : decode cX9_putBack 10 = .ok (.iload_n 1, 1) := by decide +kernel
theorem dX9_putBack_11 : decode cX9_putBack 11 = .ok (.bipush 16, 2) := by decide +kernel
theorem dX9_putBack_13 : decode cX9_putBack 13 = .ok (.if_icmp .ge 21, 3) := by decide +kernel
theorem dX9_putBack_16 : decode cX9_putBack 16 = .ok (.aload_n 0, 1) := by decide +kernel
theorem dX9_putBack_17 : decode cX9_putBack 17 = .ok (.getfield 16, 3) := by decide +kernel
theorem dX9_putBack_20 : decode cX9_putBack 20 = .ok (.iload_n 1, 1) := by decide +kernel
theorem dX9_putBack_21 : decode cX9_putBack 21 = .ok (.aload_n 0, 1) := by decide +kernel
theorem dX9_putBack_22 : decode cX9_putBack 22 = .ok (.getfield 105, 3) := by decide +kernel
theorem dX9_putBack_25 : decode cX9_putBack 25 = .ok (.iload_n 1, 1) := by decide +kernel
theorem dX9_putBack_26 : decode cX9_putBack 26 = .ok (.iaload, 1) := by decide +kernel
theorem dX9_putBack_27 : decode cX9_putBack 27 = .ok (.iastore, 1) := by decide +kernel
theorem dX9_putBack_28 : decode cX9_putBack 28 = .ok (.iinc 1 1, 3) := by decide +kernel
theorem dX9_putBack_31 : decode cX9_putBack 31 = .ok (.goto (-21), 3) := by decide +kernel
theorem dX9_putBack_34 : decode cX9_putBack 34 = .ok (.return_, 1) := by decide +kernel
theorem dX9_on_0 : decode cX9_on 0 = .ok (.iload_n 2, 1) := by decide +kernel
theorem dX9_on_1 : decode cX9_on 1 = .ok (.ifCond .eq 17, 3) := by decide +kernel
theorem dX9_on_4 : decode cX9_on 4 = .ok (.aload_n 0, 1) := by decide +kernel
theorem dX9_on_5 : decode cX9_on 5 = .ok (.iload_n 2, 1) := by decide +kernel
theorem dX9_on_6 : decode cX9_on 6 = .ok (.bipush 10, 2) := by decide +kernel
theorem dX9_on_8 : decode cX9_on 8 = .ok (.bipush 25, 2) := by decide +kernel
theorem dX9_on_10 : decode cX9_on 10 = .ok (.invokevirtual 224, 3) := by decide +kernel
theorem dX9_on_13 : decode cX9_on 13 = .ok (.ifCond .ne 5, 3) := by decide +kernel
theorem dX9_on_16 : decode cX9_on 16 = .ok (.iconst (-1), 1) := by decide +kernel
theorem dX9_on_17 : decode cX9_on 17 = .ok (.ireturn, 1) := by decide +kernel
theorem dX9_on_18 : decode cX9_on 18 = .ok (.aload_n 0, 1) := by decide +kernel
theorem dX9_on_19 : decode cX9_on 19 = .ok (.iload_n 1, 1) := by decide +kernel
theorem dX9_on_20 : decode cX9_on 20 = .ok (.invokevirtual 367, 3) := by decide +kernel
theorem dX9_on_23 : decode cX9_on 23 = .ok (.ifCond .ne 6, 3) := by decide +kernel
theorem dX9_on_26 : decode cX9_on 26 = .ok (.bipush (-2), 2) := by decide +kernel
theorem dX9_on_28 : decode cX9_on 28 = .ok (.ireturn, 1) := by decide +kernel
theorem dX9_on_29 : decode cX9_on 29 = .ok (.aload_n 0, 1) := by decide +kernel
theorem dX9_on_30 : decode cX9_on 30 = .ok (.invokevirtual 373, 3) := by decide +kernel
theorem dX9_on_33 : decode cX9_on 33 = .ok (.aload_n 0, 1) := by decide +kernel
theorem dX9_on_34 : decode cX9_on 34 = .ok (.iload_n 1, 1) := by decide +kernel
theorem dX9_on_35 : decode cX9_on 35 = .ok (.invokevirtual 370, 3) := by decide +kernel
theorem dX9_on_38 : decode cX9_on 38 = .ok (.iload_n 2, 1) := by decide +kernel
theorem dX9_on_39 : decode cX9_on 39 = .ok (.ifCond .ne 10, 3) := by decide +kernel
theorem dX9_on_42 : decode cX9_on 42 = .ok (.aload_n 0, 1) := by decide +kernel
theorem dX9_on_43 : decode cX9_on 43 = .ok (.invokevirtual 351, 3) := by decide +kernel
theorem dX9_on_46 : decode cX9_on 46 = .ok (.goto 12, 3) := by decide +kernel
theorem dX9_on_49 : decode cX9_on 49 = .ok (.aload_n 0, 1) := by decide +kernel
theorem dX9_on_50 : decode cX9_on 50 = .ok (.getfield 16, 3) := by decide +kernel
theorem dX9_on_53 : decode cX9_on 53 = .ok (.iload_n 2, 1) := by decide +kernel
theorem dX9_on_54 : decode cX9_on 54 = .ok (.bipush 10, 2) := by decide +kernel
theorem dX9_on_56 : decode cX9_on 56 = .ok (.isub, 1) := by decide +kernel
theorem dX9_on_57 : decode cX9_on 57 = .ok (.iaload, 1) := by decide +kernel
theorem dX9_on_58 : decode cX9_on 58 = .ok (.istore_n 3, 1) := by decide +kernel
theorem dX9_on_59 : decode cX9_on 59 = .ok (.aload_n 0, 1) := by decide +kernel
theorem dX9_on_60 : decode cX9_on 60 = .ok (.invokevirtual 376, 3) := by decide +kernel
theorem dX9_on_63 : decode cX9_on 63 = .ok (.iload_n 3, 1) := by decide +kernel
theorem dX9_on_64 : decode cX9_on 64 = .ok (.ireturn, 1) := by decide +kernel
theorem dX9_soon_0 : decode cX9_soon 0 = .ok (.aload_n 0, 1) := by decide +kernel
theorem dX9_soon_1 : decode cX9_soon 1 = .ok (.iload_n 1, 1) := by decide +kernel
theorem dX9_soon_2 : decode cX9_soon 2 = .ok (.invokevirtual 235, 3) := by decide +kernel
theorem dX9_soon_5 : decode cX9_soon 5 = .ok (.ifCond .ne 5, 3) := by decide +kernel
theorem dX9_soon_8 : decode cX9_soon 8 = .ok (.iconst (-1), 1) := by decide +kernel
theorem dX9_soon_9 : decode cX9_soon 9 = .ok (.ireturn, 1) := by decide +kernel
theorem dX9_soon_10 : decode cX9_soon 10 = .ok (.aload_n 0, 1) := by decide +kernel
theorem dX9_soon_11 : decode cX9_soon 11 = .ok (.invokevirtual 373, 3) := by decide +kernel
theorem dX9_soon_14 : decode cX9_soon 14 = .ok (.iconst 0, 1) := by decide +kernel
theorem dX9_soon_15 : decode cX9_soon 15 = .ok (.istore_n 2, 1) := by decide +kernel
theorem dX9_soon_16 : decode cX9_soon 16 = .ok (.iload_n 2, 1) := by decide +kernel
theorem dX9_soon_17 : decode cX9_soon 17 = .ok (.bipush 61, 2) := by decide +kernel
theorem dX9_soon_19 : decode cX9_soon 19 = .ok (.if_icmp .ge 21, 3) := by decide +kernel
theorem dX9_soon_22 : decode cX9_soon 22 = .ok (.aload_n 0, 1) := by decide +kernel
theorem dX9_soon_23 : decode cX9_soon 23 = .ok (.iload_n 1, 1) := by decide +kernel
theorem dX9_soon_24 : decode cX9_soon 24 = .ok (.invokevirtual 342, 3) := by decide +kernel
theorem dX9_soon_27 : decode cX9_soon 27 = .ok (.ifCond .ne 13, 3) := by decide +kernel
theorem dX9_soon_30 : decode cX9_soon 30 = .ok (.aload_n 0, 1) := by decide +kernel
theorem dX9_soon_31 : decode cX9_soon 31 = .ok (.invokevirtual 364, 3) := by decide +kernel
theorem dX9_soon_34 : decode cX9_soon 34 = .ok (.iinc 2 1, 3) := by decide +kernel
theorem dX9_soon_37 : decode cX9_soon 37 = .ok (.goto (-21), 3) := by decide +kernel
theorem dX9_soon_40 : decode cX9_soon 40 = .ok (.aload_n 0, 1) := by decide +kernel
theorem dX9_soon_41 : decode cX9_soon 41 = .ok (.invokevirtual 376, 3) := by decide +kernel
theorem dX9_soon_44 : decode cX9_soon 44 = .ok (.iload_n 2, 1) := by decide +kernel
theorem dX9_soon_45 : decode cX9_soon 45 = .ok (.bipush 61, 2) := by decide +kernel
theorem dX9_soon_47 : decode cX9_soon 47 = .ok (.if_icmp .ge 7, 3) := by decide +kernel
theorem dX9_soon_50 : decode cX9_soon 50 = .ok (.iload_n 2, 1) := by decide +kernel
theorem dX9_soon_51 : decode cX9_soon 51 = .ok (.goto 5, 3) := by decide +kernel
theorem dX9_soon_54 : decode cX9_soon 54 = .ok (.bipush (-5), 2) := by decide +kernel
theorem dX9_soon_56 : decode cX9_soon 56 = .ok (.ireturn, 1) := by decide +kernel
theorem dX9_way_0 : decode cX9_way 0 = .ok (.aload_n 0, 1) := by decide +kernel
theorem dX9_way_1 : decode cX9_way 1 = .ok (.iload_n 1, 1) := by decide +kernel
theorem dX9_way_2 : decode cX9_way 2 = .ok (.invokevirtual 235, 3) := by decide +kernel
theorem dX9_way_5 : decode cX9_way 5 = .ok (.ifCond .eq 14, 3) := by decide +kernel
theorem dX9_way_8 : decode cX9_way 8 = .ok (.aload_n 0, 1) := by decide +kernel
theorem dX9_way_9 : decode cX9_way 9 = .ok (.iload_n 2, 1) := by decide +kernel
theorem dX9_way_10 : decode cX9_way 10 = .ok (.iconst 0, 1) := by decide +kernel
theorem dX9_way_11 : decode cX9_way 11 = .ok (.bipush 15, 2) := by decide +kernel
theorem dX9_way_13 : decode cX9_way 13 = .ok (.invokevirtual 224, 3) := by decide +kernel
theorem dX9_way_16 : decode cX9_way 16 = .ok (.ifCond .ne 5, 3) := by decide +kernel
theorem dX9_way_19 : decode cX9_way 19 = .ok (.iconst (-1), 1) := by decide +kernel
theorem dX9_way_20 : decode cX9_way 20 = .ok (.ireturn, 1) := by decide +kernel
theorem dX9_way_21 : decode cX9_way 21 = .ok (.aload_n 0, 1) := by decide +kernel
theorem dX9_way_22 : decode cX9_way 22 = .ok (.iload_n 1, 1) := by decide +kernel
theorem dX9_way_23 : decode cX9_way 23 = .ok (.invokevirtual 339, 3) := by decide +kernel
theorem dX9_way_26 : decode cX9_way 26 = .ok (.istore_n 3, 1) := by decide +kernel
theorem dX9_way_27 : decode cX9_way 27 = .ok (.iload_n 3, 1) := by decide +kernel
theorem dX9_way_28 : decode cX9_way 28 = .ok (.iload_n 2, 1) := by decide +kernel
theorem dX9_way_29 : decode cX9_way 29 = .ok (.if_icmp .ge 6, 3) := by decide +kernel
theorem dX9_way_32 : decode cX9_way 32 = .ok (.bipush (-5), 2) := by decide +kernel
theorem dX9_way_34 : decode cX9_way 34 = .ok (.ireturn, 1) := by decide +kernel
theorem dX9_way_35 : decode cX9_way 35 = .ok (.aload_n 0, 1) := by decide +kernel
theorem dX9_way_36 : decode cX9_way 36 = .ok (.iload_n 1, 1) := by decide +kernel
theorem dX9_way_37 : decode cX9_way 37 = .ok (.aload_n 0, 1) := by decide +kernel
theorem dX9_way_38 : decode cX9_way 38 = .ok (.invokevirtual 379, 3) := by decide +kernel
theorem dX9_way_41 : decode cX9_way 41 = .ok (.invokevirtual 336, 3) := by decide +kernel
theorem dX9_way_44 : decode cX9_way 44 = .ok (.iconst 0, 1) := by decide +kernel
theorem dX9_way_45 : decode cX9_way 45 = .ok (.istore 4, 2) := by decide +kernel
theorem dX9_way_47 : decode cX9_way 47 = .ok (.aload_n 0, 1) := by decide +kernel
theorem dX9_way_48 : decode cX9_way 48 = .ok (.getfield 90, 3) := by decide +kernel
theorem dX9_way_51 : decode cX9_way 51 = .ok (.iload 4, 2) := by decide +kernel
theorem dX9_way_53 : decode cX9_way 53 = .ok (.iaload, 1) := by decide +kernel
theorem dX9_way_54 : decode cX9_way 54 = .ok (.iload_n 3, 1) := by decide +kernel
theorem dX9_way_55 : decode cX9_way 55 = .ok (.if_icmp .eq 9, 3) := by decide +kernel
theorem dX9_way_58 : decode cX9_way 58 = .ok (.iinc 4 4, 3) := by decide +kernel
theorem dX9_way_61 : decode cX9_way 61 = .ok (.goto (-14), 3) := by decide +kernel
theorem dX9_way_64 : decode cX9_way 64 = .ok (.iconst 1, 1) := by decide +kernel
theorem dX9_way_65 : decode cX9_way 65 = .ok (.istore 5, 2) := by decide +kernel
theorem dX9_way_67 : decode cX9_way 67 = .ok (.iload 5, 2) := by decide +kernel
theorem dX9_way_69 : decode cX9_way 69 = .ok (.iload_n 2, 1) := by decide +kernel
theorem dX9_way_70 : decode cX9_way 70 = .ok (.if_icmp .gt 48, 3) := by decide +kernel
theorem dX9_way_73 : decode cX9_way 73 = .ok (.iconst 0, 1) := by decide +kernel
theorem dX9_way_74 : decode cX9_way 74 = .ok (.istore 6, 2) := by decide +kernel
theorem dX9_way_76 : decode cX9_way 76 = .ok (.aload_n 0, 1) := by decide +kernel
theorem dX9_way_77 : decode cX9_way 77 = .ok (.getfield 90, 3) := by decide +kernel
theorem dX9_way_80 : decode cX9_way 80 = .ok (.iload 6, 2) := by decide +kernel
theorem dX9_way_82 : decode cX9_way 82 = .ok (.iaload, 1) := by decide +kernel
theorem dX9_way_83 : decode cX9_way 83 = .ok (.iload_n 3, 1) := by decide +kernel
theorem dX9_way_84 : decode cX9_way 84 = .ok (.iload 5, 2) := by decide +kernel
theorem dX9_way_86 : decode cX9_way 86 = .ok (.isub, 1) := by decide +kernel
theorem dX9_way_87 : decode cX9_way 87 = .ok (.if_icmp .ne 15, 3) := by decide +kernel
theorem dX9_way_90 : decode cX9_way 90 = .ok (.aload_n 0, 1) := by decide +kernel
theorem dX9_way_91 : decode cX9_way 91 = .ok (.iload_n 1, 1) := by decide +kernel
theorem dX9_way_92 : decode cX9_way 92 = .ok (.iload 4, 2) := by decide +kernel
theorem dX9_way_94 : decode cX9_way 94 = .ok (.iload 6, 2) := by decide +kernel
theorem dX9_way_96 : decode cX9_way 96 = .ok (.invokevirtual 329, 3) := by decide +kernel
theorem dX9_way_99 : decode cX9_way 99 = .ok (.ifCond .ne 9, 3) := by decide +kernel
theorem dX9_way_102 : decode cX9_way 102 = .ok (.iinc 6 1, 3) := by decide +kernel
theorem dX9_way_105 : decode cX9_way 105 = .ok (.goto (-29), 3) := by decide +kernel
theorem dX9_way_108 : decode cX9_way 108 = .ok (.iload 6, 2) := by decide +kernel
theorem dX9_way_110 : decode cX9_way 110 = .ok (.istore 4, 2) := by decide +kernel
theorem dX9_way_112 : decode cX9_way 112 = .ok (.iinc 5 1, 3) := by decide +kernel
theorem dX9_way_115 : decode cX9_way 115 = .ok (.goto (-48), 3) := by decide +kernel
theorem dX9_way_118 : decode cX9_way 118 = .ok (.iload 4, 2) := by decide +kernel
theorem dX9_way_120 : decode cX9_way 120 = .ok (.ireturn, 1) := by decide +kernel
theorem dX9_reach_0 : decode cX9_reach 0 = .ok (.aload_n 0, 1) := by decide +kernel
theorem dX9_reach_1 : decode cX9_reach 1 = .ok (.iload_n 1, 1) := by decide +kernel
theorem dX9_reach_2 : decode cX9_reach 2 = .ok (.invokevirtual 235, 3) := by decide +kernel
theorem dX9_reach_5 : decode cX9_reach 5 = .ok (.ifCond .eq 19, 3) := by decide +kernel
theorem dX9_reach_8 : decode cX9_reach 8 = .ok (.aload_n 0, 1) := by decide +kernel
theorem dX9_reach_9 : decode cX9_reach 9 = .ok (.iload_n 2, 1) := by decide +kernel
theorem dX9_reach_10 : decode cX9_reach 10 = .ok (.invokevirtual 232, 3) := by decide +kernel
theorem dX9_reach_13 : decode cX9_reach 13 = .ok (.ifCond .eq 11, 3) := by decide +kernel
theorem dX9_reach_16 : decode cX9_reach 16 = .ok (.aload_n 0, 1) := by decide +kernel
theorem dX9_reach_17 : decode cX9_reach 17 = .ok (.iload_n 3, 1) := by decide +kernel
theorem dX9_reach_18 : decode cX9_reach 18 = .ok (.invokevirtual 232, 3) := by decide +kernel
theorem dX9_reach_21 : decode cX9_reach 21 = .ok (.ifCond .ne 5, 3) := by decide +kernel
theorem dX9_reach_24 : decode cX9_reach 24 = .ok (.iconst (-1), 1) := by decide +kernel
theorem dX9_reach_25 : decode cX9_reach 25 = .ok (.ireturn, 1) := by decide +kernel
theorem dX9_reach_26 : decode cX9_reach 26 = .ok (.aload_n 0, 1) := by decide +kernel
theorem dX9_reach_27 : decode cX9_reach 27 = .ok (.iload_n 1, 1) := by decide +kernel
theorem dX9_reach_28 : decode cX9_reach 28 = .ok (.iconst 1, 1) := by decide +kernel
theorem dX9_reach_29 : decode cX9_reach 29 = .ok (.iload_n 2, 1) := by decide +kernel
theorem dX9_reach_30 : decode cX9_reach 30 = .ok (.ishl, 1) := by decide +kernel
theorem dX9_reach_31 : decode cX9_reach 31 = .ok (.invokevirtual 336, 3) := by decide +kernel
theorem dX9_reach_34 : decode cX9_reach 34 = .ok (.aload_n 0, 1) := by decide +kernel
theorem dX9_reach_35 : decode cX9_reach 35 = .ok (.getfield 90, 3) := by decide +kernel
theorem dX9_reach_38 : decode cX9_reach 38 = .ok (.iload_n 3, 1) := by decide +kernel
theorem dX9_reach_39 : decode cX9_reach 39 = .ok (.iaload, 1) := by decide +kernel
theorem dX9_reach_40 : decode cX9_reach 40 = .ok (.ireturn, 1) := by decide +kernel
theorem dX9_heaviest_0 : decode cX9_heaviest 0 = .ok (.aload_n 0, 1) := by decide +kernel
theorem dX9_heaviest_1 : decode cX9_heaviest 1 = .ok (.iload_n 1, 1) := by decide +kernel
theorem dX9_heaviest_2 : decode cX9_heaviest 2 = .ok (.invokevirtual 235, 3) := by decide +kernel
theorem dX9_heaviest_5 : decode cX9_heaviest 5 = .ok (.ifCond .ne 5, 3) := by decide +kernel
theorem dX9_heaviest_8 : decode cX9_heaviest 8 = .ok (.iconst (-1), 1) := by decide +kernel
theorem dX9_heaviest_9 : decode cX9_heaviest 9 = .ok (.ireturn, 1) := by decide +kernel
theorem dX9_heaviest_10 : decode cX9_heaviest 10 = .ok (.aload_n 0, 1) := by decide +kernel
theorem dX9_heaviest_11 : decode cX9_heaviest 11 = .ok (.getfield 26, 3) := by decide +kernel
theorem dX9_heaviest_14 : decode cX9_heaviest 14 = .ok (.iload_n 1, 1) := by decide +kernel
theorem dX9_heaviest_15 : decode cX9_heaviest 15 = .ok (.iaload, 1) := by decide +kernel
theorem dX9_heaviest_16 : decode cX9_heaviest 16 = .ok (.istore_n 2, 1) := by decide +kernel
theorem dX9_heaviest_17 : decode cX9_heaviest 17 = .ok (.bipush (-5), 2) := by decide +kernel
theorem dX9_heaviest_19 : decode cX9_heaviest 19 = .ok (.istore_n 3, 1) := by decide +kernel
theorem dX9_heaviest_20 : decode cX9_heaviest 20 = .ok (.bipush 99, 2) := by decide +kernel
theorem dX9_heaviest_22 : decode cX9_heaviest 22 = .ok (.istore 4, 2) := by decide +kernel
theorem dX9_heaviest_24 : decode cX9_heaviest 24 = .ok (.iload 4, 2) := by decide +kernel
theorem dX9_heaviest_26 : decode cX9_heaviest 26 = .ok (.ifCond .lt 37, 3) := by decide +kernel
theorem dX9_heaviest_29 : decode cX9_heaviest 29 = .ok (.iload_n 3, 1) := by decide +kernel
theorem dX9_heaviest_30 : decode cX9_heaviest 30 = .ok (.ifCond .ge 33, 3) := by decide +kernel
theorem dX9_heaviest_33 : decode cX9_heaviest 33 = .ok (.aload_n 0, 1) := by decide +kernel
theorem dX9_heaviest_34 : decode cX9_heaviest 34 = .ok (.getfield 26, 3) := by decide +kernel
theorem dX9_heaviest_37 : decode cX9_heaviest 37 = .ok (.iload_n 1, 1) := by decide +kernel
theorem dX9_heaviest_38 : decode cX9_heaviest 38 = .ok (.iload 4, 2) := by decide +kernel
theorem dX9_heaviest_40 : decode cX9_heaviest 40 = .ok (.iastore, 1) := by decide +kernel
theorem dX9_heaviest_41 : decode cX9_heaviest 41 = .ok (.aload_n 0, 1) := by decide +kernel
theorem dX9_heaviest_42 : decode cX9_heaviest 42 = .ok (.iload_n 1, 1) := by decide +kernel
theorem dX9_heaviest_43 : decode cX9_heaviest 43 = .ok (.invokevirtual 342, 3) := by decide +kernel
theorem dX9_heaviest_46 : decode cX9_heaviest 46 = .ok (.ifCond .eq 8, 3) := by decide +kernel
theorem dX9_heaviest_49 : decode cX9_heaviest 49 = .ok (.iload 4, 2) := by decide +kernel
theorem dX9_heaviest_51 : decode cX9_heaviest 51 = .ok (.goto 5, 3) := by decide +kernel
theorem dX9_heaviest_54 : decode cX9_heaviest 54 = .ok (.bipush (-5), 2) := by decide +kernel
theorem dX9_heaviest_56 : decode cX9_heaviest 56 = .ok (.istore_n 3, 1) := by decide +kernel
theorem dX9_heaviest_57 : decode cX9_heaviest 57 = .ok (.iinc 4 (-1), 3) := by decide +kernel
theorem dX9_heaviest_60 : decode cX9_heaviest 60 = .ok (.goto (-36), 3) := by decide +kernel
theorem dX9_heaviest_63 : decode cX9_heaviest 63 = .ok (.aload_n 0, 1) := by decide +kernel
theorem dX9_heaviest_64 : decode cX9_heaviest 64 = .ok (.getfield 26, 3) := by decide +kernel
theorem dX9_heaviest_67 : decode cX9_heaviest 67 = .ok (.iload_n 1, 1) := by decide +kernel
theorem dX9_heaviest_68 : decode cX9_heaviest 68 = .ok (.iload_n 2, 1) := by decide +kernel
theorem dX9_heaviest_69 : decode cX9_heaviest 69 = .ok (.iastore, 1) := by decide +kernel
theorem dX9_heaviest_70 : decode cX9_heaviest 70 = .ok (.iload_n 3, 1) := by decide +kernel
theorem dX9_heaviest_71 : decode cX9_heaviest 71 = .ok (.ireturn, 1) := by decide +kernel
theorem dX9_isCutBy_0 : decode cX9_isCutBy 0 = .ok (.aload_n 0, 1) := by decide +kernel
theorem dX9_isCutBy_1 : decode cX9_isCutBy 1 = .ok (.iload_n 2, 1) := by decide +kernel
theorem dX9_isCutBy_2 : decode cX9_isCutBy 2 = .ok (.putfield 87, 3) := by decide +kernel
theorem dX9_isCutBy_5 : decode cX9_isCutBy 5 = .ok (.aload_n 0, 1) := by decide +kernel
theorem dX9_isCutBy_6 : decode cX9_isCutBy 6 = .ok (.iload_n 1, 1) := by decide +kernel
theorem dX9_isCutBy_7 : decode cX9_isCutBy 7 = .ok (.invokevirtual 342, 3) := by decide +kernel
theorem dX9_isCutBy_10 : decode cX9_isCutBy 10 = .ok (.ifCond .ne 7, 3) := by decide +kernel
theorem dX9_isCutBy_13 : decode cX9_isCutBy 13 = .ok (.iconst 1, 1) := by decide +kernel
theorem dX9_isCutBy_14 : decode cX9_isCutBy 14 = .ok (.goto 4, 3) := by decide +kernel
theorem dX9_isCutBy_17 : decode cX9_isCutBy 17 = .ok (.iconst 0, 1) := by decide +kernel
theorem dX9_isCutBy_18 : decode cX9_isCutBy 18 = .ok (.istore_n 3, 1) := by decide +kernel
theorem dX9_isCutBy_19 : decode cX9_isCutBy 19 = .ok (.aload_n 0, 1) := by decide +kernel
theorem dX9_isCutBy_20 : decode cX9_isCutBy 20 = .ok (.iconst 0, 1) := by decide +kernel
theorem dX9_isCutBy_21 : decode cX9_isCutBy 21 = .ok (.putfield 87, 3) := by decide +kernel
theorem dX9_isCutBy_24 : decode cX9_isCutBy 24 = .ok (.iload_n 3, 1) := by decide +kernel
theorem dX9_isCutBy_25 : decode cX9_isCutBy 25 = .ok (.ireturn, 1) := by decide +kernel
theorem dX9_leastCut_0 : decode cX9_leastCut 0 = .ok (.bipush (-5), 2) := by decide +kernel
theorem dX9_leastCut_2 : decode cX9_leastCut 2 = .ok (.istore_n 3, 1) := by decide +kernel
theorem dX9_leastCut_3 : decode cX9_leastCut 3 = .ok (.iconst 0, 1) := by decide +kernel
theorem dX9_leastCut_4 : decode cX9_leastCut 4 = .ok (.istore 4, 2) := by decide +kernel
theorem dX9_leastCut_6 : decode cX9_leastCut 6 = .ok (.iload 4, 2) := by decide +kernel
theorem dX9_leastCut_8 : decode cX9_leastCut 8 = .ok (.bipush 16, 2) := by decide +kernel
theorem dX9_leastCut_10 : decode cX9_leastCut 10 = .ok (.if_icmp .ge 118, 3) := by decide +kernel
theorem dX9_leastCut_13 : decode cX9_leastCut 13 = .ok (.iload_n 2, 1) := by decide +kernel
theorem dX9_leastCut_14 : decode cX9_leastCut 14 = .ok (.iconst 1, 1) := by decide +kernel
theorem dX9_leastCut_15 : decode cX9_leastCut 15 = .ok (.if_icmp .le 7, 3) := by decide +kernel
theorem dX9_leastCut_18 : decode cX9_leastCut 18 = .ok (.iconst 0, 1) := by decide +kernel
theorem dX9_leastCut_19 : decode cX9_leastCut 19 = .ok (.goto 5, 3) := by decide +kernel
theorem dX9_leastCut_22 : decode cX9_leastCut 22 = .ok (.iload 4, 2) := by decide +kernel
theorem dX9_leastCut_24 : decode cX9_leastCut 24 = .ok (.istore 5, 2) := by decide +kernel
theorem dX9_leastCut_26 : decode cX9_leastCut 26 = .ok (.iload 5, 2) := by decide +kernel
theorem dX9_leastCut_28 : decode cX9_leastCut 28 = .ok (.iload_n 2, 1) := by decide +kernel
theorem dX9_leastCut_29 : decode cX9_leastCut 29 = .ok (.iconst 1, 1) := by decide +kernel
theorem dX9_leastCut_30 : decode cX9_leastCut 30 = .ok (.if_icmp .le 8, 3) := by decide +kernel
theorem dX9_leastCut_33 : decode cX9_leastCut 33 = .ok (.iload 4, 2) := by decide +kernel
theorem dX9_leastCut_35 : decode cX9_leastCut 35 = .ok (.goto 7, 3) := by decide +kernel
theorem dX9_leastCut_38 : decode cX9_leastCut 38 = .ok (.iload 4, 2) := by decide +kernel
theorem dX9_leastCut_40 : decode cX9_leastCut 40 = .ok (.iconst 1, 1) := by decide +kernel
theorem dX9_leastCut_41 : decode cX9_leastCut 41 = .ok (.iadd, 1) := by decide +kernel
theorem dX9_leastCut_42 : decode cX9_leastCut 42 = .ok (.if_icmp .ge 80, 3) := by decide +kernel
theorem dX9_leastCut_45 : decode cX9_leastCut 45 = .ok (.iload_n 2, 1) := by decide +kernel
theorem dX9_leastCut_46 : decode cX9_leastCut 46 = .ok (.iconst 2, 1) := by decide +kernel
theorem dX9_leastCut_47 : decode cX9_leastCut 47 = .ok (.if_icmp .le 7, 3) := by decide +kernel
theorem dX9_leastCut_50 : decode cX9_leastCut 50 = .ok (.iconst 0, 1) := by decide +kernel
theorem dX9_leastCut_51 : decode cX9_leastCut 51 = .ok (.goto 5, 3) := by decide +kernel
theorem dX9_leastCut_54 : decode cX9_leastCut 54 = .ok (.iload 5, 2) := by decide +kernel
theorem dX9_leastCut_56 : decode cX9_leastCut 56 = .ok (.istore 6, 2) := by decide +kernel
theorem dX9_leastCut_58 : decode cX9_leastCut 58 = .ok (.iload 6, 2) := by decide +kernel
theorem dX9_leastCut_60 : decode cX9_leastCut 60 = .ok (.iload_n 2, 1) := by decide +kernel
theorem dX9_leastCut_61 : decode cX9_leastCut 61 = .ok (.iconst 2, 1) := by decide +kernel
theorem dX9_leastCut_62 : decode cX9_leastCut 62 = .ok (.if_icmp .le 8, 3) := by decide +kernel
theorem dX9_leastCut_65 : decode cX9_leastCut 65 = .ok (.iload 5, 2) := by decide +kernel
theorem dX9_leastCut_67 : decode cX9_leastCut 67 = .ok (.goto 7, 3) := by decide +kernel
theorem dX9_leastCut_70 : decode cX9_leastCut 70 = .ok (.iload 5, 2) := by decide +kernel
theorem dX9_leastCut_72 : decode cX9_leastCut 72 = .ok (.iconst 1, 1) := by decide +kernel
theorem dX9_leastCut_73 : decode cX9_leastCut 73 = .ok (.iadd, 1) := by decide +kernel
theorem dX9_leastCut_74 : decode cX9_leastCut 74 = .ok (.if_icmp .ge 42, 3) := by decide +kernel
theorem dX9_leastCut_77 : decode cX9_leastCut 77 = .ok (.iconst 1, 1) := by decide +kernel
theorem dX9_leastCut_78 : decode cX9_leastCut 78 = .ok (.iload 4, 2) := by decide +kernel
theorem dX9_leastCut_80 : decode cX9_leastCut 80 = .ok (.ishl, 1) := by decide +kernel
theorem dX9_leastCut_81 : decode cX9_leastCut 81 = .ok (.iconst 1, 1) := by decide +kernel
theorem dX9_leastCut_82 : decode cX9_leastCut 82 = .ok (.iload 5, 2) := by decide +kernel
theorem dX9_leastCut_84 : decode cX9_leastCut 84 = .ok (.ishl, 1) := by decide +kernel
theorem dX9_leastCut_85 : decode cX9_leastCut 85 = .ok (.ior, 1) := by decide +kernel
theorem dX9_leastCut_86 : decode cX9_leastCut 86 = .ok (.iconst 1, 1) := by decide +kernel
theorem dX9_leastCut_87 : decode cX9_leastCut 87 = .ok (.iload 6, 2) := by decide +kernel
theorem dX9_leastCut_89 : decode cX9_leastCut 89 = .ok (.ishl, 1) := by decide +kernel
theorem dX9_leastCut_90 : decode cX9_leastCut 90 = .ok (.ior, 1) := by decide +kernel
theorem dX9_leastCut_91 : decode cX9_leastCut 91 = .ok (.istore 7, 2) := by decide +kernel
theorem dX9_leastCut_93 : decode cX9_leastCut 93 = .ok (.iload_n 3, 1) := by decide +kernel
theorem dX9_leastCut_94 : decode cX9_leastCut 94 = .ok (.ifCond .ge 16, 3) := by decide +kernel
theorem dX9_leastCut_97 : decode cX9_leastCut 97 = .ok (.aload_n 0, 1) := by decide +kernel
theorem dX9_leastCut_98 : decode cX9_leastCut 98 = .ok (.iload_n 1, 1) := by decide +kernel
theorem dX9_leastCut_99 : decode cX9_leastCut 99 = .ok (.iload 7, 2) := by decide +kernel
theorem dX9_leastCut_101 : decode cX9_leastCut 101 = .ok (.invokevirtual 382, 3) := by decide +kernel
theorem dX9_leastCut_104 : decode cX9_leastCut 104 = .ok (.ifCond .eq 6, 3) := by decide +kernel
theorem dX9_leastCut_107 : decode cX9_leastCut 107 = .ok (.iload 7, 2) := by decide +kernel
theorem dX9_leastCut_109 : decode cX9_leastCut 109 = .ok (.istore_n 3, 1) := by decide +kernel
theorem dX9_leastCut_110 : decode cX9_leastCut 110 = .ok (.iinc 6 1, 3) := by decide +kernel
theorem dX9_leastCut_113 : decode cX9_leastCut 113 = .ok (.goto (-55), 3) := by decide +kernel
theorem dX9_leastCut_116 : decode cX9_leastCut 116 = .ok (.iinc 5 1, 3) := by decide +kernel
theorem dX9_leastCut_119 : decode cX9_leastCut 119 = .ok (.goto (-93), 3) := by decide +kernel
theorem dX9_leastCut_122 : decode cX9_leastCut 122 = .ok (.iinc 4 1, 3) := by decide +kernel
theorem dX9_leastCut_125 : decode cX9_leastCut 125 = .ok (.goto (-119), 3) := by decide +kernel
theorem dX9_leastCut_128 : decode cX9_leastCut 128 = .ok (.iload_n 3, 1) := by decide +kernel
theorem dX9_leastCut_129 : decode cX9_leastCut 129 = .ok (.ireturn, 1) := by decide +kernel
theorem dX9_cut_0 : decode cX9_cut 0 = .ok (.aload_n 0, 1) := by decide +kernel
theorem dX9_cut_1 : decode cX9_cut 1 = .ok (.iload_n 1, 1) := by decide +kernel
theorem dX9_cut_2 : decode cX9_cut 2 = .ok (.invokevirtual 235, 3) := by decide +kernel
theorem dX9_cut_5 : decode cX9_cut 5 = .ok (.ifCond .eq 13, 3) := by decide +kernel
theorem dX9_cut_8 : decode cX9_cut 8 = .ok (.aload_n 0, 1) := by decide +kernel
theorem dX9_cut_9 : decode cX9_cut 9 = .ok (.iload_n 2, 1) := by decide +kernel
theorem dX9_cut_10 : decode cX9_cut 10 = .ok (.iconst 0, 1) := by decide +kernel
theorem dX9_cut_11 : decode cX9_cut 11 = .ok (.iconst 1, 1) := by decide +kernel
theorem dX9_cut_12 : decode cX9_cut 12 = .ok (.invokevirtual 224, 3) := by decide +kernel
theorem dX9_cut_15 : decode cX9_cut 15 = .ok (.ifCond .ne 5, 3) := by decide +kernel
theorem dX9_cut_18 : decode cX9_cut 18 = .ok (.iconst (-1), 1) := by decide +kernel
theorem dX9_cut_19 : decode cX9_cut 19 = .ok (.ireturn, 1) := by decide +kernel
theorem dX9_cut_20 : decode cX9_cut 20 = .ok (.aload_n 0, 1) := by decide +kernel
theorem dX9_cut_21 : decode cX9_cut 21 = .ok (.iload_n 1, 1) := by decide +kernel
theorem dX9_cut_22 : decode cX9_cut 22 = .ok (.invokevirtual 342, 3) := by decide +kernel
theorem dX9_cut_25 : decode cX9_cut 25 = .ok (.ifCond .ne 5, 3) := by decide +kernel
theorem dX9_cut_28 : decode cX9_cut 28 = .ok (.iconst 0, 1) := by decide +kernel
theorem dX9_cut_29 : decode cX9_cut 29 = .ok (.ireturn, 1) := by decide +kernel
theorem dX9_cut_30 : decode cX9_cut 30 = .ok (.iconst 1, 1) := by decide +kernel
theorem dX9_cut_31 : decode cX9_cut 31 = .ok (.istore_n 3, 1) := by decide +kernel
theorem dX9_cut_32 : decode cX9_cut 32 = .ok (.iload_n 3, 1) := by decide +kernel
theorem dX9_cut_33 : decode cX9_cut 33 = .ok (.iconst 4, 1) := by decide +kernel
theorem dX9_cut_34 : decode cX9_cut 34 = .ok (.if_icmp .ge 33, 3) := by decide +kernel
theorem dX9_cut_37 : decode cX9_cut 37 = .ok (.aload_n 0, 1) := by decide +kernel
theorem dX9_cut_38 : decode cX9_cut 38 = .ok (.iload_n 1, 1) := by decide +kernel
theorem dX9_cut_39 : decode cX9_cut 39 = .ok (.iload_n 3, 1) := by decide +kernel
theorem dX9_cut_40 : decode cX9_cut 40 = .ok (.invokevirtual 385, 3) := by decide +kernel
theorem dX9_cut_43 : decode cX9_cut 43 = .ok (.istore 4, 2) := by decide +kernel
theorem dX9_cut_45 : decode cX9_cut 45 = .ok (.iload 4, 2) := by decide +kernel
theorem dX9_cut_47 : decode cX9_cut 47 = .ok (.ifCond .lt 14, 3) := by decide +kernel
theorem dX9_cut_50 : decode cX9_cut 50 = .ok (.iload_n 2, 1) := by decide +kernel
theorem dX9_cut_51 : decode cX9_cut 51 = .ok (.ifCond .ne 7, 3) := by decide +kernel
theorem dX9_cut_54 : decode cX9_cut 54 = .ok (.iload_n 3, 1) := by decide +kernel
theorem dX9_cut_55 : decode cX9_cut 55 = .ok (.goto 5, 3) := by decide +kernel
theorem dX9_cut_58 : decode cX9_cut 58 = .ok (.iload 4, 2) := by decide +kernel
theorem dX9_cut_60 : decode cX9_cut 60 = .ok (.ireturn, 1) := by decide +kernel
theorem dX9_cut_61 : decode cX9_cut 61 = .ok (.iinc 3 1, 3) := by decide +kernel
theorem dX9_cut_64 : decode cX9_cut 64 = .ok (.goto (-32), 3) := by decide +kernel
theorem dX9_cut_67 : decode cX9_cut 67 = .ok (.bipush (-5), 2) := by decide +kernel
theorem dX9_cut_69 : decode cX9_cut 69 = .ok (.ireturn, 1) := by decide +kernel
theorem dX9_stirred_0 : decode cX9_stirred 0 = .ok (.aload_n 0, 1) := by decide +kernel
theorem dX9_stirred_1 : decode cX9_stirred 1 = .ok (.iload_n 1, 1) := by decide +kernel
theorem dX9_stirred_2 : decode cX9_stirred 2 = .ok (.invokevirtual 235, 3) := by decide +kernel
theorem dX9_stirred_5 : decode cX9_stirred 5 = .ok (.ifCond .ne 5, 3) := by decide +kernel
theorem dX9_stirred_8 : decode cX9_stirred 8 = .ok (.iconst (-1), 1) := by decide +kernel
theorem dX9_stirred_9 : decode cX9_stirred 9 = .ok (.ireturn, 1) := by decide +kernel
theorem dX9_stirred_10 : decode cX9_stirred 10 = .ok (.aload_n 0, 1) := by decide +kernel
theorem dX9_stirred_11 : decode cX9_stirred 11 = .ok (.iload_n 1, 1) := by decide +kernel
theorem dX9_stirred_12 : decode cX9_stirred 12 = .ok (.invokevirtual 339, 3) := by decide +kernel
theorem dX9_stirred_15 : decode cX9_stirred 15 = .ok (.istore_n 2, 1) := by decide +kernel
theorem dX9_stirred_16 : decode cX9_stirred 16 = .ok (.iload_n 2, 1) := by decide +kernel
theorem dX9_stirred_17 : decode cX9_stirred 17 = .ok (.ifCond .ge 9, 3) := by decide +kernel
theorem dX9_stirred_20 : decode cX9_stirred 20 = .ok (.sipush 999, 3) := by decide +kernel
theorem dX9_stirred_23 : decode cX9_stirred 23 = .ok (.goto 4, 3) := by decide +kernel
theorem dX9_stirred_26 : decode cX9_stirred 26 = .ok (.iload_n 2, 1) := by decide +kernel
theorem dX9_stirred_27 : decode cX9_stirred 27 = .ok (.istore_n 2, 1) := by decide +kernel
theorem dX9_stirred_28 : decode cX9_stirred 28 = .ok (.bipush (-5), 2) := by decide +kernel
theorem dX9_stirred_30 : decode cX9_stirred 30 = .ok (.istore_n 3, 1) := by decide +kernel
theorem dX9_stirred_31 : decode cX9_stirred 31 = .ok (.iconst 0, 1) := by decide +kernel
theorem dX9_stirred_32 : decode cX9_stirred 32 = .ok (.istore 4, 2) := by decide +kernel
theorem dX9_stirred_34 : decode cX9_stirred 34 = .ok (.iload 4, 2) := by decide +kernel
theorem dX9_stirred_36 : decode cX9_stirred 36 = .ok (.bipush 16, 2) := by decide +kernel
theorem dX9_stirred_38 : decode cX9_stirred 38 = .ok (.if_icmp .ge 91, 3) := by decide +kernel
theorem dX9_stirred_41 : decode cX9_stirred 41 = .ok (.iload 4, 2) := by decide +kernel
theorem dX9_stirred_43 : decode cX9_stirred 43 = .ok (.iconst 1, 1) := by decide +kernel
theorem dX9_stirred_44 : decode cX9_stirred 44 = .ok (.iadd, 1) := by decide +kernel
theorem dX9_stirred_45 : decode cX9_stirred 45 = .ok (.istore 5, 2) := by decide +kernel
theorem dX9_stirred_47 : decode cX9_stirred 47 = .ok (.iload 5, 2) := by decide +kernel
theorem dX9_stirred_49 : decode cX9_stirred 49 = .ok (.bipush 16, 2) := by decide +kernel
theorem dX9_stirred_51 : decode cX9_stirred 51 = .ok (.if_icmp .ge 72, 3) := by decide +kernel
theorem dX9_stirred_54 : decode cX9_stirred 54 = .ok (.aload_n 0, 1) := by decide +kernel
theorem dX9_stirred_55 : decode cX9_stirred 55 = .ok (.iload 4, 2) := by decide +kernel
theorem dX9_stirred_57 : decode cX9_stirred 57 = .ok (.iload 5, 2) := by decide +kernel
theorem dX9_stirred_59 : decode cX9_stirred 59 = .ok (.invokevirtual 245, 3) := by decide +kernel
theorem dX9_stirred_62 : decode cX9_stirred 62 = .ok (.ifCond .ne 6, 3) := by decide +kernel
theorem dX9_stirred_65 : decode cX9_stirred 65 = .ok (.goto 52, 3) := by decide +kernel
theorem dX9_stirred_68 : decode cX9_stirred 68 = .ok (.aload_n 0, 1) := by decide +kernel
theorem dX9_stirred_69 : decode cX9_stirred 69 = .ok (.iload 4, 2) := by decide +kernel
theorem dX9_stirred_71 : decode cX9_stirred 71 = .ok (.iload 5, 2) := by decide +kernel
theorem dX9_stirred_73 : decode cX9_stirred 73 = .ok (.invokevirtual 249, 3) := by decide +kernel
theorem dX9_stirred_76 : decode cX9_stirred 76 = .ok (.aload_n 0, 1) := by decide +kernel
theorem dX9_stirred_77 : decode cX9_stirred 77 = .ok (.iload_n 1, 1) := by decide +kernel
theorem dX9_stirred_78 : decode cX9_stirred 78 = .ok (.invokevirtual 339, 3) := by decide +kernel
theorem dX9_stirred_81 : decode cX9_stirred 81 = .ok (.istore 6, 2) := by decide +kernel
theorem dX9_stirred_83 : decode cX9_stirred 83 = .ok (.aload_n 0, 1) := by decide +kernel
theorem dX9_stirred_84 : decode cX9_stirred 84 = .ok (.iload 4, 2) := by decide +kernel
theorem dX9_stirred_86 : decode cX9_stirred 86 = .ok (.iload 5, 2) := by decide +kernel
theorem dX9_stirred_88 : decode cX9_stirred 88 = .ok (.invokevirtual 249, 3) := by decide +kernel
theorem dX9_stirred_91 : decode cX9_stirred 91 = .ok (.iload 6, 2) := by decide +kernel
theorem dX9_stirred_93 : decode cX9_stirred 93 = .ok (.ifCond .lt 24, 3) := by decide +kernel
theorem dX9_stirred_96 : decode cX9_stirred 96 = .ok (.iload 6, 2) := by decide +kernel
theorem dX9_stirred_98 : decode cX9_stirred 98 = .ok (.iload_n 2, 1) := by decide +kernel
theorem dX9_stirred_99 : decode cX9_stirred 99 = .ok (.if_icmp .lt 6, 3) := by decide +kernel
theorem dX9_stirred_102 : decode cX9_stirred 102 = .ok (.goto 15, 3) := by decide +kernel
theorem dX9_stirred_105 : decode cX9_stirred 105 = .ok (.bipush 100, 2) := by decide +kernel
theorem dX9_stirred_107 : decode cX9_stirred 107 = .ok (.iload 4, 2) := by decide +kernel
theorem dX9_stirred_109 : decode cX9_stirred 109 = .ok (.imul, 1) := by decide +kernel
theorem dX9_stirred_110 : decode cX9_stirred 110 = .ok (.iload 5, 2) := by decide +kernel
theorem dX9_stirred_112 : decode cX9_stirred 112 = .ok (.iadd, 1) := by decide +kernel
theorem dX9_stirred_113 : decode cX9_stirred 113 = .ok (.istore_n 3, 1) := by decide +kernel
theorem dX9_stirred_114 : decode cX9_stirred 114 = .ok (.iload 6, 2) := by decide +kernel
theorem dX9_stirred_116 : decode cX9_stirred 116 = .ok (.istore_n 2, 1) := by decide +kernel
theorem dX9_stirred_117 : decode cX9_stirred 117 = .ok (.iinc 5 1, 3) := by decide +kernel
theorem dX9_stirred_120 : decode cX9_stirred 120 = .ok (.goto (-73), 3) := by decide +kernel
theorem dX9_stirred_123 : decode cX9_stirred 123 = .ok (.iinc 4 1, 3) := by decide +kernel
theorem dX9_stirred_126 : decode cX9_stirred 126 = .ok (.goto (-92), 3) := by decide +kernel
theorem dX9_stirred_129 : decode cX9_stirred 129 = .ok (.iload_n 3, 1) := by decide +kernel
theorem dX9_stirred_130 : decode cX9_stirred 130 = .ok (.ireturn, 1) := by decide +kernel
theorem dX9_meet_0 : decode cX9_meet 0 = .ok (.aload_n 0, 1) := by decide +kernel
theorem dX9_meet_1 : decode cX9_meet 1 = .ok (.iload_n 1, 1) := by decide +kernel
theorem dX9_meet_2 : decode cX9_meet 2 = .ok (.invokevirtual 235, 3) := by decide +kernel
theorem dX9_meet_5 : decode cX9_meet 5 = .ok (.ifCond .eq 11, 3) := by decide +kernel
theorem dX9_meet_8 : decode cX9_meet 8 = .ok (.aload_n 0, 1) := by decide +kernel
theorem dX9_meet_9 : decode cX9_meet 9 = .ok (.iload_n 2, 1) := by decide +kernel
theorem dX9_meet_10 : decode cX9_meet 10 = .ok (.invokevirtual 235, 3) := by decide +kernel
theorem dX9_meet_13 : decode cX9_meet 13 = .ok (.ifCond .ne 5, 3) := by decide +kernel
theorem dX9_meet_16 : decode cX9_meet 16 = .ok (.iconst (-1), 1) := by decide +kernel
theorem dX9_meet_17 : decode cX9_meet 17 = .ok (.ireturn, 1) := by decide +kernel
theorem dX9_meet_18 : decode cX9_meet 18 = .ok (.iload_n 1, 1) := by decide +kernel
theorem dX9_meet_19 : decode cX9_meet 19 = .ok (.iload_n 2, 1) := by decide +kernel
theorem dX9_meet_20 : decode cX9_meet 20 = .ok (.if_icmp .ne 6, 3) := by decide +kernel
theorem dX9_meet_23 : decode cX9_meet 23 = .ok (.bipush (-2), 2) := by decide +kernel
theorem dX9_meet_25 : decode cX9_meet 25 = .ok (.ireturn, 1) := by decide +kernel
theorem dX9_meet_26 : decode cX9_meet 26 = .ok (.aload_n 0, 1) := by decide +kernel
theorem dX9_meet_27 : decode cX9_meet 27 = .ok (.iload_n 1, 1) := by decide +kernel
theorem dX9_meet_28 : decode cX9_meet 28 = .ok (.aload_n 0, 1) := by decide +kernel
theorem dX9_meet_29 : decode cX9_meet 29 = .ok (.invokevirtual 333, 3) := by decide +kernel
theorem dX9_meet_32 : decode cX9_meet 32 = .ok (.invokevirtual 336, 3) := by decide +kernel
theorem dX9_meet_35 : decode cX9_meet 35 = .ok (.iconst 0, 1) := by decide +kernel
theorem dX9_meet_36 : decode cX9_meet 36 = .ok (.istore_n 3, 1) := by decide +kernel
theorem dX9_meet_37 : decode cX9_meet 37 = .ok (.iload_n 3, 1) := by decide +kernel
theorem dX9_meet_38 : decode cX9_meet 38 = .ok (.bipush 16, 2) := by decide +kernel
theorem dX9_meet_40 : decode cX9_meet 40 = .ok (.if_icmp .ge 21, 3) := by decide +kernel
theorem dX9_meet_43 : decode cX9_meet 43 = .ok (.aload_n 0, 1) := by decide +kernel
theorem dX9_meet_44 : decode cX9_meet 44 = .ok (.getfield 108, 3) := by decide +kernel
theorem dX9_meet_47 : decode cX9_meet 47 = .ok (.iload_n 3, 1) := by decide +kernel
theorem dX9_meet_48 : decode cX9_meet 48 = .ok (.aload_n 0, 1) := by decide +kernel
theorem dX9_meet_49 : decode cX9_meet 49 = .ok (.getfield 90, 3) := by decide +kernel
theorem dX9_meet_52 : decode cX9_meet 52 = .ok (.iload_n 3, 1) := by decide +kernel
theorem dX9_meet_53 : decode cX9_meet 53 = .ok (.iaload, 1) := by decide +kernel
theorem dX9_meet_54 : decode cX9_meet 54 = .ok (.iastore, 1) := by decide +kernel
theorem dX9_meet_55 : decode cX9_meet 55 = .ok (.iinc 3 1, 3) := by decide +kernel
theorem dX9_meet_58 : decode cX9_meet 58 = .ok (.goto (-21), 3) := by decide +kernel
theorem dX9_meet_61 : decode cX9_meet 61 = .ok (.aload_n 0, 1) := by decide +kernel
theorem dX9_meet_62 : decode cX9_meet 62 = .ok (.iload_n 2, 1) := by decide +kernel
theorem dX9_meet_63 : decode cX9_meet 63 = .ok (.aload_n 0, 1) := by decide +kernel
theorem dX9_meet_64 : decode cX9_meet 64 = .ok (.invokevirtual 333, 3) := by decide +kernel
theorem dX9_meet_67 : decode cX9_meet 67 = .ok (.invokevirtual 336, 3) := by decide +kernel
theorem dX9_meet_70 : decode cX9_meet 70 = .ok (.bipush (-5), 2) := by decide +kernel
theorem dX9_meet_72 : decode cX9_meet 72 = .ok (.istore_n 3, 1) := by decide +kernel
theorem dX9_meet_73 : decode cX9_meet 73 = .ok (.iconst 0, 1) := by decide +kernel
theorem dX9_meet_74 : decode cX9_meet 74 = .ok (.istore 4, 2) := by decide +kernel
theorem dX9_meet_76 : decode cX9_meet 76 = .ok (.iconst 0, 1) := by decide +kernel
theorem dX9_meet_77 : decode cX9_meet 77 = .ok (.istore 5, 2) := by decide +kernel
theorem dX9_meet_79 : decode cX9_meet 79 = .ok (.iload 5, 2) := by decide +kernel
theorem dX9_meet_81 : decode cX9_meet 81 = .ok (.bipush 16, 2) := by decide +kernel
theorem dX9_meet_83 : decode cX9_meet 83 = .ok (.if_icmp .ge 70, 3) := by decide +kernel
theorem dX9_meet_86 : decode cX9_meet 86 = .ok (.aload_n 0, 1) := by decide +kernel
theorem dX9_meet_87 : decode cX9_meet 87 = .ok (.getfield 108, 3) := by decide +kernel
theorem dX9_meet_90 : decode cX9_meet 90 = .ok (.iload 5, 2) := by decide +kernel
theorem dX9_meet_92 : decode cX9_meet 92 = .ok (.iaload, 1) := by decide +kernel
theorem dX9_meet_93 : decode cX9_meet 93 = .ok (.ifCond .lt 54, 3) := by decide +kernel
theorem dX9_meet_96 : decode cX9_meet 96 = .ok (.aload_n 0, 1) := by decide +kernel
theorem dX9_meet_97 : decode cX9_meet 97 = .ok (.getfield 90, 3) := by decide +kernel
theorem dX9_meet_100 : decode cX9_meet 100 = .ok (.iload 5, 2) := by decide +kernel
theorem dX9_meet_102 : decode cX9_meet 102 = .ok (.iaload, 1) := by decide +kernel
theorem dX9_meet_103 : decode cX9_meet 103 = .ok (.ifCond .ge 6, 3) := by decide +kernel
theorem dX9_meet_106 : decode cX9_meet 106 = .ok (.goto 41, 3) := by decide +kernel
theorem dX9_meet_109 : decode cX9_meet 109 = .ok (.aload_n 0, 1) := by decide +kernel
theorem dX9_meet_110 : decode cX9_meet 110 = .ok (.getfield 108, 3) := by decide +kernel
theorem dX9_meet_113 : decode cX9_meet 113 = .ok (.iload 5, 2) := by decide +kernel
theorem dX9_meet_115 : decode cX9_meet 115 = .ok (.iaload, 1) := by decide +kernel
theorem dX9_meet_116 : decode cX9_meet 116 = .ok (.aload_n 0, 1) := by decide +kernel
theorem dX9_meet_117 : decode cX9_meet 117 = .ok (.getfield 90, 3) := by decide +kernel
theorem dX9_meet_120 : decode cX9_meet 120 = .ok (.iload 5, 2) := by decide +kernel
theorem dX9_meet_122 : decode cX9_meet 122 = .ok (.iaload, 1) := by decide +kernel
theorem dX9_meet_123 : decode cX9_meet 123 = .ok (.iadd, 1) := by decide +kernel
theorem dX9_meet_124 : decode cX9_meet 124 = .ok (.istore 6, 2) := by decide +kernel
theorem dX9_meet_126 : decode cX9_meet 126 = .ok (.iload_n 3, 1) := by decide +kernel
theorem dX9_meet_127 : decode cX9_meet 127 = .ok (.ifCond .lt 13, 3) := by decide +kernel
theorem dX9_meet_130 : decode cX9_meet 130 = .ok (.iload 6, 2) := by decide +kernel
theorem dX9_meet_132 : decode cX9_meet 132 = .ok (.iload 4, 2) := by decide +kernel
theorem dX9_meet_134 : decode cX9_meet 134 = .ok (.if_icmp .lt 6, 3) := by decide +kernel
theorem dX9_meet_137 : decode cX9_meet 137 = .ok (.goto 10, 3) := by decide +kernel
theorem dX9_meet_140 : decode cX9_meet 140 = .ok (.iload 5, 2) := by decide +kernel
theorem dX9_meet_142 : decode cX9_meet 142 = .ok (.istore_n 3, 1) := by decide +kernel
theorem dX9_meet_143 : decode cX9_meet 143 = .ok (.iload 6, 2) := by decide +kernel
theorem dX9_meet_145 : decode cX9_meet 145 = .ok (.istore 4, 2) := by decide +kernel
theorem dX9_meet_147 : decode cX9_meet 147 = .ok (.iinc 5 1, 3) := by decide +kernel
theorem dX9_meet_150 : decode cX9_meet 150 = .ok (.goto (-71), 3) := by decide +kernel
theorem dX9_meet_153 : decode cX9_meet 153 = .ok (.iload_n 3, 1) := by decide +kernel
theorem dX9_meet_154 : decode cX9_meet 154 = .ok (.ireturn, 1) := by decide +kernel
theorem dX9_see_0 : decode cX9_see 0 = .ok (.iload_n 1, 1) := by decide +kernel
theorem dX9_see_1 : decode cX9_see 1 = .ok (.iconst (-1), 1) := by decide +kernel
theorem dX9_see_2 : decode cX9_see 2 = .ok (.if_icmp .ne 10, 3) := by decide +kernel
theorem dX9_see_5 : decode cX9_see 5 = .ok (.aload_n 0, 1) := by decide +kernel
theorem dX9_see_6 : decode cX9_see 6 = .ok (.iconst 0, 1) := by decide +kernel
theorem dX9_see_7 : decode cX9_see 7 = .ok (.putfield 111, 3) := by decide +kernel
theorem dX9_see_10 : decode cX9_see 10 = .ok (.iconst 0, 1) := by decide +kernel
theorem dX9_see_11 : decode cX9_see 11 = .ok (.ireturn, 1) := by decide +kernel
theorem dX9_see_12 : decode cX9_see 12 = .ok (.aload_n 0, 1) := by decide +kernel
theorem dX9_see_13 : decode cX9_see 13 = .ok (.iload_n 1, 1) := by decide +kernel
theorem dX9_see_14 : decode cX9_see 14 = .ok (.invokevirtual 235, 3) := by decide +kernel
theorem dX9_see_17 : decode cX9_see 17 = .ok (.ifCond .ne 5, 3) := by decide +kernel
theorem dX9_see_20 : decode cX9_see 20 = .ok (.iconst (-1), 1) := by decide +kernel
theorem dX9_see_21 : decode cX9_see 21 = .ok (.ireturn, 1) := by decide +kernel
theorem dX9_see_22 : decode cX9_see 22 = .ok (.aload_n 0, 1) := by decide +kernel
theorem dX9_see_23 : decode cX9_see 23 = .ok (.iload_n 3, 1) := by decide +kernel
theorem dX9_see_24 : decode cX9_see 24 = .ok (.iconst 0, 1) := by decide +kernel
theorem dX9_see_25 : decode cX9_see 25 = .ok (.bipush 20, 2) := by decide +kernel
theorem dX9_see_27 : decode cX9_see 27 = .ok (.invokevirtual 224, 3) := by decide +kernel
theorem dX9_see_30 : decode cX9_see 30 = .ok (.ifCond .ne 6, 3) := by decide +kernel
theorem dX9_see_33 : decode cX9_see 33 = .ok (.bipush (-2), 2) := by decide +kernel
theorem dX9_see_35 : decode cX9_see 35 = .ok (.ireturn, 1) := by decide +kernel
theorem dX9_see_36 : decode cX9_see 36 = .ok (.aload_n 0, 1) := by decide +kernel
theorem dX9_see_37 : decode cX9_see 37 = .ok (.getfield 111, 3) := by decide +kernel
theorem dX9_see_40 : decode cX9_see 40 = .ok (.iconst 5, 1) := by decide +kernel
theorem dX9_see_41 : decode cX9_see 41 = .ok (.if_icmp .ne 6, 3) := by decide +kernel
theorem dX9_see_44 : decode cX9_see 44 = .ok (.bipush (-4), 2) := by decide +kernel
theorem dX9_see_46 : decode cX9_see 46 = .ok (.ireturn, 1) := by decide +kernel
theorem dX9_see_47 : decode cX9_see 47 = .ok (.aload_n 0, 1) := by decide +kernel
theorem dX9_see_48 : decode cX9_see 48 = .ok (.getfield 114, 3) := by decide +kernel
theorem dX9_see_51 : decode cX9_see 51 = .ok (.aload_n 0, 1) := by decide +kernel
theorem dX9_see_52 : decode cX9_see 52 = .ok (.getfield 111, 3) := by decide +kernel
theorem dX9_see_55 : decode cX9_see 55 = .ok (.iload_n 1, 1) := by decide +kernel
theorem dX9_see_56 : decode cX9_see 56 = .ok (.iastore, 1) := by decide +kernel
theorem dX9_see_57 : decode cX9_see 57 = .ok (.aload_n 0, 1) := by decide +kernel
theorem dX9_see_58 : decode cX9_see 58 = .ok (.getfield 123, 3) := by decide +kernel
theorem dX9_see_61 : decode cX9_see 61 = .ok (.aload_n 0, 1) := by decide +kernel
theorem dX9_see_62 : decode cX9_see 62 = .ok (.getfield 111, 3) := by decide +kernel
theorem dX9_see_65 : decode cX9_see 65 = .ok (.iload_n 2, 1) := by decide +kernel
theorem dX9_see_66 : decode cX9_see 66 = .ok (.bastore, 1) := by decide +kernel
theorem dX9_see_67 : decode cX9_see 67 = .ok (.aload_n 0, 1) := by decide +kernel
theorem dX9_see_68 : decode cX9_see 68 = .ok (.getfield 117, 3) := by decide +kernel
theorem dX9_see_71 : decode cX9_see 71 = .ok (.aload_n 0, 1) := by decide +kernel
theorem dX9_see_72 : decode cX9_see 72 = .ok (.getfield 111, 3) := by decide +kernel
theorem dX9_see_75 : decode cX9_see 75 = .ok (.iload_n 3, 1) := by decide +kernel
theorem dX9_see_76 : decode cX9_see 76 = .ok (.iastore, 1) := by decide +kernel
theorem dX9_see_77 : decode cX9_see 77 = .ok (.aload_n 0, 1) := by decide +kernel
theorem dX9_see_78 : decode cX9_see 78 = .ok (.dup, 1) := by decide +kernel
theorem dX9_see_79 : decode cX9_see 79 = .ok (.getfield 111, 3) := by decide +kernel
theorem dX9_see_82 : decode cX9_see 82 = .ok (.iconst 1, 1) := by decide +kernel
theorem dX9_see_83 : decode cX9_see 83 = .ok (.iadd, 1) := by decide +kernel
theorem dX9_see_84 : decode cX9_see 84 = .ok (.putfield 111, 3) := by decide +kernel
theorem dX9_see_87 : decode cX9_see 87 = .ok (.aload_n 0, 1) := by decide +kernel
theorem dX9_see_88 : decode cX9_see 88 = .ok (.getfield 111, 3) := by decide +kernel
theorem dX9_see_91 : decode cX9_see 91 = .ok (.ireturn, 1) := by decide +kernel
theorem dX9_layThen_0 : decode cX9_layThen 0 = .ok (.iconst 0, 1) := by decide +kernel
theorem dX9_layThen_1 : decode cX9_layThen 1 = .ok (.istore_n 1, 1) := by decide +kernel
theorem dX9_layThen_2 : decode cX9_layThen 2 = .ok (.iload_n 1, 1) := by decide +kernel
theorem dX9_layThen_3 : decode cX9_layThen 3 = .ok (.aload_n 0, 1) := by decide +kernel
theorem dX9_layThen_4 : decode cX9_layThen 4 = .ok (.getfield 111, 3) := by decide +kernel
theorem dX9_layThen_7 : decode cX9_layThen 7 = .ok (.if_icmp .ge 58, 3) := by decide +kernel
theorem dX9_layThen_10 : decode cX9_layThen 10 = .ok (.aload_n 0, 1) := by decide +kernel
theorem dX9_layThen_11 : decode cX9_layThen 11 = .ok (.invokevirtual 373, 3) := by decide +kernel
theorem dX9_layThen_14 : decode cX9_layThen 14 = .ok (.aload_n 0, 1) := by decide +kernel
theorem dX9_layThen_15 : decode cX9_layThen 15 = .ok (.aload_n 0, 1) := by decide +kernel
theorem dX9_layThen_16 : decode cX9_layThen 16 = .ok (.getfield 117, 3) := by decide +kernel
theorem dX9_layThen_19 : decode cX9_layThen 19 = .ok (.iload_n 1, 1) := by decide +kernel
theorem dX9_layThen_20 : decode cX9_layThen 20 = .ok (.iaload, 1) := by decide +kernel
theorem dX9_layThen_21 : decode cX9_layThen 21 = .ok (.invokevirtual 370, 3) := by decide +kernel
theorem dX9_layThen_24 : decode cX9_layThen 24 = .ok (.iconst 0, 1) := by decide +kernel
theorem dX9_layThen_25 : decode cX9_layThen 25 = .ok (.istore_n 2, 1) := by decide +kernel
theorem dX9_layThen_26 : decode cX9_layThen 26 = .ok (.iload_n 2, 1) := by decide +kernel
theorem dX9_layThen_27 : decode cX9_layThen 27 = .ok (.bipush 16, 2) := by decide +kernel
theorem dX9_layThen_29 : decode cX9_layThen 29 = .ok (.if_icmp .ge 26, 3) := by decide +kernel
theorem dX9_layThen_32 : decode cX9_layThen 32 = .ok (.aload_n 0, 1) := by decide +kernel
theorem dX9_layThen_33 : decode cX9_layThen 33 = .ok (.getfield 120, 3) := by decide +kernel
theorem dX9_layThen_36 : decode cX9_layThen 36 = .ok (.bipush 16, 2) := by decide +kernel
theorem dX9_layThen_38 : decode cX9_layThen 38 = .ok (.iload_n 1, 1) := by decide +kernel
theorem dX9_layThen_39 : decode cX9_layThen 39 = .ok (.imul, 1) := by decide +kernel
theorem dX9_layThen_40 : decode cX9_layThen 40 = .ok (.iload_n 2, 1) := by decide +kernel
theorem dX9_layThen_41 : decode cX9_layThen 41 = .ok (.iadd, 1) := by decide +kernel
theorem dX9_layThen_42 : decode cX9_layThen 42 = .ok (.aload_n 0, 1) := by decide +kernel
theorem dX9_layThen_43 : decode cX9_layThen 43 = .ok (.getfield 16, 3) := by decide +kernel
theorem dX9_layThen_46 : decode cX9_layThen 46 = .ok (.iload_n 2, 1) := by decide +kernel
theorem dX9_layThen_47 : decode cX9_layThen 47 = .ok (.iaload, 1) := by decide +kernel
theorem dX9_layThen_48 : decode cX9_layThen 48 = .ok (.iastore, 1) := by decide +kernel
theorem dX9_layThen_49 : decode cX9_layThen 49 = .ok (.iinc 2 1, 3) := by decide +kernel
theorem dX9_layThen_52 : decode cX9_layThen 52 = .ok (.goto (-26), 3) := by decide +kernel
theorem dX9_layThen_55 : decode cX9_layThen 55 = .ok (.aload_n 0, 1) := by decide +kernel
theorem dX9_layThen_56 : decode cX9_layThen 56 = .ok (.invokevirtual 376, 3) := by decide +kernel
theorem dX9_layThen_59 : decode cX9_layThen 59 = .ok (.iinc 1 1, 3) := by decide +kernel
theorem dX9_layThen_62 : decode cX9_layThen 62 = .ok (.goto (-60), 3) := by decide +kernel
theorem dX9_layThen_65 : decode cX9_layThen 65 = .ok (.return_, 1) := by decide +kernel
theorem dX9_isSeen_0 : decode cX9_isSeen 0 = .ok (.aload_n 0, 1) := by decide +kernel
theorem dX9_isSeen_1 : decode cX9_isSeen 1 = .ok (.invokevirtual 373, 3) := by decide +kernel
theorem dX9_isSeen_4 : decode cX9_isSeen 4 = .ok (.iconst 1, 1) := by decide +kernel
theorem dX9_isSeen_5 : decode cX9_isSeen 5 = .ok (.istore_n 1, 1) := by decide +kernel
theorem dX9_isSeen_6 : decode cX9_isSeen 6 = .ok (.iconst 0, 1) := by decide +kernel
theorem dX9_isSeen_7 : decode cX9_isSeen 7 = .ok (.istore_n 2, 1) := by decide +kernel
theorem dX9_isSeen_8 : decode cX9_isSeen 8 = .ok (.iload_n 2, 1) := by decide +kernel
theorem dX9_isSeen_9 : decode cX9_isSeen 9 = .ok (.aload_n 0, 1) := by decide +kernel
theorem dX9_isSeen_10 : decode cX9_isSeen 10 = .ok (.getfield 111, 3) := by decide +kernel
theorem dX9_isSeen_13 : decode cX9_isSeen 13 = .ok (.if_icmp .ge 69, 3) := by decide +kernel
theorem dX9_isSeen_16 : decode cX9_isSeen 16 = .ok (.iload_n 1, 1) := by decide +kernel
theorem dX9_isSeen_17 : decode cX9_isSeen 17 = .ok (.ifCond .eq 65, 3) := by decide +kernel
theorem dX9_isSeen_20 : decode cX9_isSeen 20 = .ok (.iconst 0, 1) := by decide +kernel
theorem dX9_isSeen_21 : decode cX9_isSeen 21 = .ok (.istore_n 3, 1) := by decide +kernel
theorem dX9_isSeen_22 : decode cX9_isSeen 22 = .ok (.iload_n 3, 1) := by decide +kernel
theorem dX9_isSeen_23 : decode cX9_isSeen 23 = .ok (.bipush 16, 2) := by decide +kernel
theorem dX9_isSeen_25 : decode cX9_isSeen 25 = .ok (.if_icmp .ge 26, 3) := by decide +kernel
theorem dX9_isSeen_28 : decode cX9_isSeen 28 = .ok (.aload_n 0, 1) := by decide +kernel
theorem dX9_isSeen_29 : decode cX9_isSeen 29 = .ok (.getfield 16, 3) := by decide +kernel
theorem dX9_isSeen_32 : decode cX9_isSeen 32 = .ok (.iload_n 3, 1) := by decide +kernel
theorem dX9_isSeen_33 : decode cX9_isSeen 33 = .ok (.aload_n 0, 1) := by decide +kernel
theorem dX9_isSeen_34 : decode cX9_isSeen 34 = .ok (.getfield 120, 3) := by decide +kernel
theorem dX9_isSeen_37 : decode cX9_isSeen 37 = .ok (.bipush 16, 2) := by decide +kernel
theorem dX9_isSeen_39 : decode cX9_isSeen 39 = .ok (.iload_n 2, 1) := by decide +kernel
theorem dX9_isSeen_40 : decode cX9_isSeen 40 = .ok (.imul, 1) := by decide +kernel
theorem dX9_isSeen_41 : decode cX9_isSeen 41 = .ok (.iload_n 3, 1) := by decide +kernel
theorem dX9_isSeen_42 : decode cX9_isSeen 42 = .ok (.iadd, 1) := by decide +kernel
theorem dX9_isSeen_43 : decode cX9_isSeen 43 = .ok (.iaload, 1) := by decide +kernel
theorem dX9_isSeen_44 : decode cX9_isSeen 44 = .ok (.iastore, 1) := by decide +kernel
theorem dX9_isSeen_45 : decode cX9_isSeen 45 = .ok (.iinc 3 1, 3) := by decide +kernel
theorem dX9_isSeen_48 : decode cX9_isSeen 48 = .ok (.goto (-26), 3) := by decide +kernel
theorem dX9_isSeen_51 : decode cX9_isSeen 51 = .ok (.aload_n 0, 1) := by decide +kernel
theorem dX9_isSeen_52 : decode cX9_isSeen 52 = .ok (.aload_n 0, 1) := by decide +kernel
theorem dX9_isSeen_53 : decode cX9_isSeen 53 = .ok (.getfield 114, 3) := by decide +kernel
theorem dX9_isSeen_56 : decode cX9_isSeen 56 = .ok (.iload_n 2, 1) := by decide +kernel
theorem dX9_isSeen_57 : decode cX9_isSeen 57 = .ok (.iaload, 1) := by decide +kernel
theorem dX9_isSeen_58 : decode cX9_isSeen 58 = .ok (.invokevirtual 342, 3) := by decide +kernel
theorem dX9_isSeen_61 : decode cX9_isSeen 61 = .ok (.aload_n 0, 1) := by decide +kernel
theorem dX9_isSeen_62 : decode cX9_isSeen 62 = .ok (.getfield 123, 3) := by decide +kernel
theorem dX9_isSeen_65 : decode cX9_isSeen 65 = .ok (.iload_n 2, 1) := by decide +kernel
theorem dX9_isSeen_66 : decode cX9_isSeen 66 = .ok (.baload, 1) := by decide +kernel
theorem dX9_isSeen_67 : decode cX9_isSeen 67 = .ok (.if_icmp .ne 7, 3) := by decide +kernel
theorem dX9_isSeen_70 : decode cX9_isSeen 70 = .ok (.iconst 1, 1) := by decide +kernel
theorem dX9_isSeen_71 : decode cX9_isSeen 71 = .ok (.goto 4, 3) := by decide +kernel
theorem dX9_isSeen_74 : decode cX9_isSeen 74 = .ok (.iconst 0, 1) := by decide +kernel
theorem dX9_isSeen_75 : decode cX9_isSeen 75 = .ok (.istore_n 1, 1) := by decide +kernel
theorem dX9_isSeen_76 : decode cX9_isSeen 76 = .ok (.iinc 2 1, 3) := by decide +kernel
theorem dX9_isSeen_79 : decode cX9_isSeen 79 = .ok (.goto (-71), 3) := by decide +kernel
theorem dX9_isSeen_82 : decode cX9_isSeen 82 = .ok (.aload_n 0, 1) := by decide +kernel
theorem dX9_isSeen_83 : decode cX9_isSeen 83 = .ok (.invokevirtual 376, 3) := by decide +kernel
theorem dX9_isSeen_86 : decode cX9_isSeen 86 = .ok (.iload_n 1, 1) := by decide +kernel
theorem dX9_isSeen_87 : decode cX9_isSeen 87 = .ok (.ireturn, 1) := by decide +kernel
theorem dX9_heft_0 : decode cX9_heft 0 = .ok (.aload_n 0, 1) := by decide +kernel
theorem dX9_heft_1 : decode cX9_heft 1 = .ok (.iload_n 1, 1) := by decide +kernel
theorem dX9_heft_2 : decode cX9_heft 2 = .ok (.invokevirtual 235, 3) := by decide +kernel
theorem dX9_heft_5 : decode cX9_heft 5 = .ok (.ifCond .eq 13, 3) := by decide +kernel
theorem dX9_heft_8 : decode cX9_heft 8 = .ok (.aload_n 0, 1) := by decide +kernel
theorem dX9_heft_9 : decode cX9_heft 9 = .ok (.iload_n 2, 1) := by decide +kernel
theorem dX9_heft_10 : decode cX9_heft 10 = .ok (.iconst 0, 1) := by decide +kernel
theorem dX9_heft_11 : decode cX9_heft 11 = .ok (.iconst 1, 1) := by decide +kernel
theorem dX9_heft_12 : decode cX9_heft 12 = .ok (.invokevirtual 224, 3) := by decide +kernel
theorem dX9_heft_15 : decode cX9_heft 15 = .ok (.ifCond .ne 5, 3) := by decide +kernel
theorem dX9_heft_18 : decode cX9_heft 18 = .ok (.iconst (-1), 1) := by decide +kernel
theorem dX9_heft_19 : decode cX9_heft 19 = .ok (.ireturn, 1) := by decide +kernel
theorem dX9_heft_20 : decode cX9_heft 20 = .ok (.aload_n 0, 1) := by decide +kernel
theorem dX9_heft_21 : decode cX9_heft 21 = .ok (.invokevirtual 388, 3) := by decide +kernel
theorem dX9_heft_24 : decode cX9_heft 24 = .ok (.aload_n 0, 1) := by decide +kernel
theorem dX9_heft_25 : decode cX9_heft 25 = .ok (.getfield 26, 3) := by decide +kernel
theorem dX9_heft_28 : decode cX9_heft 28 = .ok (.iload_n 1, 1) := by decide +kernel
theorem dX9_heft_29 : decode cX9_heft 29 = .ok (.iaload, 1) := by decide +kernel
theorem dX9_heft_30 : decode cX9_heft 30 = .ok (.istore_n 3, 1) := by decide +kernel
theorem dX9_heft_31 : decode cX9_heft 31 = .ok (.iconst 0, 1) := by decide +kernel
theorem dX9_heft_32 : decode cX9_heft 32 = .ok (.istore 4, 2) := by decide +kernel
theorem dX9_heft_34 : decode cX9_heft 34 = .ok (.bipush (-5), 2) := by decide +kernel
theorem dX9_heft_36 : decode cX9_heft 36 = .ok (.istore 5, 2) := by decide +kernel
theorem dX9_heft_38 : decode cX9_heft 38 = .ok (.bipush 99, 2) := by decide +kernel
theorem dX9_heft_40 : decode cX9_heft 40 = .ok (.istore 6, 2) := by decide +kernel
theorem dX9_heft_42 : decode cX9_heft 42 = .ok (.iload 6, 2) := by decide +kernel
theorem dX9_heft_44 : decode cX9_heft 44 = .ok (.ifCond .lt 34, 3) := by decide +kernel
theorem dX9_heft_47 : decode cX9_heft 47 = .ok (.aload_n 0, 1) := by decide +kernel
theorem dX9_heft_48 : decode cX9_heft 48 = .ok (.getfield 26, 3) := by decide +kernel
theorem dX9_heft_51 : decode cX9_heft 51 = .ok (.iload_n 1, 1) := by decide +kernel
theorem dX9_heft_52 : decode cX9_heft 52 = .ok (.iload 6, 2) := by decide +kernel
theorem dX9_heft_54 : decode cX9_heft 54 = .ok (.iastore, 1) := by decide +kernel
theorem dX9_heft_55 : decode cX9_heft 55 = .ok (.aload_n 0, 1) := by decide +kernel
theorem dX9_heft_56 : decode cX9_heft 56 = .ok (.invokevirtual 391, 3) := by decide +kernel
theorem dX9_heft_59 : decode cX9_heft 59 = .ok (.ifCond .ne 6, 3) := by decide +kernel
theorem dX9_heft_62 : decode cX9_heft 62 = .ok (.goto 10, 3) := by decide +kernel
theorem dX9_heft_65 : decode cX9_heft 65 = .ok (.iinc 4 1, 3) := by decide +kernel
theorem dX9_heft_68 : decode cX9_heft 68 = .ok (.iload 6, 2) := by decide +kernel
theorem dX9_heft_70 : decode cX9_heft 70 = .ok (.istore 5, 2) := by decide +kernel
theorem dX9_heft_72 : decode cX9_heft 72 = .ok (.iinc 6 (-1), 3) := by decide +kernel
theorem dX9_heft_75 : decode cX9_heft 75 = .ok (.goto (-33), 3) := by decide +kernel
theorem dX9_heft_78 : decode cX9_heft 78 = .ok (.aload_n 0, 1) := by decide +kernel
theorem dX9_heft_79 : decode cX9_heft 79 = .ok (.getfield 26, 3) := by decide +kernel
theorem dX9_heft_82 : decode cX9_heft 82 = .ok (.iload_n 1, 1) := by decide +kernel
theorem dX9_heft_83 : decode cX9_heft 83 = .ok (.iload_n 3, 1) := by decide +kernel
theorem dX9_heft_84 : decode cX9_heft 84 = .ok (.iastore, 1) := by decide +kernel
theorem dX9_heft_85 : decode cX9_heft 85 = .ok (.iload_n 2, 1) := by decide +kernel
theorem dX9_heft_86 : decode cX9_heft 86 = .ok (.ifCond .ne 8, 3) := by decide +kernel
theorem dX9_heft_89 : decode cX9_heft 89 = .ok (.iload 4, 2) := by decide +kernel
theorem dX9_heft_91 : decode cX9_heft 91 = .ok (.goto 5, 3) := by decide +kernel
theorem dX9_heft_94 : decode cX9_heft 94 = .ok (.iload 5, 2) := by decide +kernel
theorem dX9_heft_96 : decode cX9_heft 96 = .ok (.ireturn, 1) := by decide +kernel
theorem dX9_can_0 : decode cX9_can 0 = .ok (.aload_n 0, 1) := by decide +kernel
theorem dX9_can_1 : decode cX9_can 1 = .ok (.iload_n 1, 1) := by decide +kernel
theorem dX9_can_2 : decode cX9_can 2 = .ok (.invokevirtual 235, 3) := by decide +kernel
theorem dX9_can_5 : decode cX9_can 5 = .ok (.ifCond .eq 13, 3) := by decide +kernel
theorem dX9_can_8 : decode cX9_can 8 = .ok (.aload_n 0, 1) := by decide +kernel
theorem dX9_can_9 : decode cX9_can 9 = .ok (.iload_n 2, 1) := by decide +kernel
theorem dX9_can_10 : decode cX9_can 10 = .ok (.iconst 0, 1) := by decide +kernel
theorem dX9_can_11 : decode cX9_can 11 = .ok (.iconst 1, 1) := by decide +kernel
theorem dX9_can_12 : decode cX9_can 12 = .ok (.invokevirtual 224, 3) := by decide +kernel
theorem dX9_can_15 : decode cX9_can 15 = .ok (.ifCond .ne 5, 3) := by decide +kernel
theorem dX9_can_18 : decode cX9_can 18 = .ok (.iconst (-1), 1) := by decide +kernel
theorem dX9_can_19 : decode cX9_can 19 = .ok (.ireturn, 1) := by decide +kernel
theorem dX9_can_20 : decode cX9_can 20 = .ok (.aload_n 0, 1) := by decide +kernel
theorem dX9_can_21 : decode cX9_can 21 = .ok (.invokevirtual 388, 3) := by decide +kernel
theorem dX9_can_24 : decode cX9_can 24 = .ok (.aload_n 0, 1) := by decide +kernel
theorem dX9_can_25 : decode cX9_can 25 = .ok (.getfield 23, 3) := by decide +kernel
theorem dX9_can_28 : decode cX9_can 28 = .ok (.iload_n 1, 1) := by decide +kernel
theorem dX9_can_29 : decode cX9_can 29 = .ok (.iaload, 1) := by decide +kernel
theorem dX9_can_30 : decode cX9_can 30 = .ok (.istore_n 3, 1) := by decide +kernel
theorem dX9_can_31 : decode cX9_can 31 = .ok (.iconst 0, 1) := by decide +kernel
theorem dX9_can_32 : decode cX9_can 32 = .ok (.istore 4, 2) := by decide +kernel
theorem dX9_can_34 : decode cX9_can 34 = .ok (.bipush (-5), 2) := by decide +kernel
theorem dX9_can_36 : decode cX9_can 36 = .ok (.istore 5, 2) := by decide +kernel
theorem dX9_can_38 : decode cX9_can 38 = .ok (.bipush 9, 2) := by decide +kernel
theorem dX9_can_40 : decode cX9_can 40 = .ok (.istore 6, 2) := by decide +kernel
theorem dX9_can_42 : decode cX9_can 42 = .ok (.iload 6, 2) := by decide +kernel
theorem dX9_can_44 : decode cX9_can 44 = .ok (.ifCond .lt 34, 3) := by decide +kernel
theorem dX9_can_47 : decode cX9_can 47 = .ok (.aload_n 0, 1) := by decide +kernel
theorem dX9_can_48 : decode cX9_can 48 = .ok (.getfield 23, 3) := by decide +kernel
theorem dX9_can_51 : decode cX9_can 51 = .ok (.iload_n 1, 1) := by decide +kernel
theorem dX9_can_52 : decode cX9_can 52 = .ok (.iload 6, 2) := by decide +kernel
theorem dX9_can_54 : decode cX9_can 54 = .ok (.iastore, 1) := by decide +kernel
theorem dX9_can_55 : decode cX9_can 55 = .ok (.aload_n 0, 1) := by decide +kernel
theorem dX9_can_56 : decode cX9_can 56 = .ok (.invokevirtual 391, 3) := by decide +kernel
theorem dX9_can_59 : decode cX9_can 59 = .ok (.ifCond .ne 6, 3) := by decide +kernel
theorem dX9_can_62 : decode cX9_can 62 = .ok (.goto 10, 3) := by decide +kernel
theorem dX9_can_65 : decode cX9_can 65 = .ok (.iinc 4 1, 3) := by decide +kernel
theorem dX9_can_68 : decode cX9_can 68 = .ok (.iload 6, 2) := by decide +kernel
theorem dX9_can_70 : decode cX9_can 70 = .ok (.istore 5, 2) := by decide +kernel
theorem dX9_can_72 : decode cX9_can 72 = .ok (.iinc 6 (-1), 3) := by decide +kernel
theorem dX9_can_75 : decode cX9_can 75 = .ok (.goto (-33), 3) := by decide +kernel
theorem dX9_can_78 : decode cX9_can 78 = .ok (.aload_n 0, 1) := by decide +kernel
theorem dX9_can_79 : decode cX9_can 79 = .ok (.getfield 23, 3) := by decide +kernel
theorem dX9_can_82 : decode cX9_can 82 = .ok (.iload_n 1, 1) := by decide +kernel
theorem dX9_can_83 : decode cX9_can 83 = .ok (.iload_n 3, 1) := by decide +kernel
theorem dX9_can_84 : decode cX9_can 84 = .ok (.iastore, 1) := by decide +kernel
theorem dX9_can_85 : decode cX9_can 85 = .ok (.iload_n 2, 1) := by decide +kernel
theorem dX9_can_86 : decode cX9_can 86 = .ok (.ifCond .ne 8, 3) := by decide +kernel
theorem dX9_can_89 : decode cX9_can 89 = .ok (.iload 4, 2) := by decide +kernel
theorem dX9_can_91 : decode cX9_can 91 = .ok (.goto 5, 3) := by decide +kernel
theorem dX9_can_94 : decode cX9_can 94 = .ok (.iload 5, 2) := by decide +kernel
theorem dX9_can_96 : decode cX9_can 96 = .ok (.ireturn, 1) := by decide +kernel
theorem dX9_strongThen_0 : decode cX9_strongThen 0 = .ok (.aload_n 0, 1) := by decide +kernel
theorem dX9_strongThen_1 : decode cX9_strongThen 1 = .ok (.getfield 16, 3) := by decide +kernel
theorem dX9_strongThen_4 : decode cX9_strongThen 4 = .ok (.iload_n 1, 1) := by decide +kernel
theorem dX9_strongThen_5 : decode cX9_strongThen 5 = .ok (.iload_n 2, 1) := by decide +kernel
theorem dX9_strongThen_6 : decode cX9_strongThen 6 = .ok (.iastore, 1) := by decide +kernel
theorem dX9_strongThen_7 : decode cX9_strongThen 7 = .ok (.iconst 0, 1) := by decide +kernel
theorem dX9_strongThen_8 : decode cX9_strongThen 8 = .ok (.istore 4, 2) := by decide +kernel
theorem dX9_strongThen_10 : decode cX9_strongThen 10 = .ok (.iload 4, 2) := by decide +kernel
theorem dX9_strongThen_12 : decode cX9_strongThen 12 = .ok (.iload_n 3, 1) := by decide +kernel
theorem dX9_strongThen_13 : decode cX9_strongThen 13 = .ok (.if_icmp .ge 24, 3) := by decide +kernel
theorem dX9_strongThen_16 : decode cX9_strongThen 16 = .ok (.aload_n 0, 1) := by decide +kernel
theorem dX9_strongThen_17 : decode cX9_strongThen 17 = .ok (.iload_n 1, 1) := by decide +kernel
theorem dX9_strongThen_18 : decode cX9_strongThen 18 = .ok (.invokevirtual 361, 3) := by decide +kernel
theorem dX9_strongThen_21 : decode cX9_strongThen 21 = .ok (.aload_n 0, 1) := by decide +kernel
theorem dX9_strongThen_22 : decode cX9_strongThen 22 = .ok (.dup, 1) := by decide +kernel
theorem dX9_strongThen_23 : decode cX9_strongThen 23 = .ok (.getfield 13, 3) := by decide +kernel
theorem dX9_strongThen_26 : decode cX9_strongThen 26 = .ok (.iconst 1, 1) := by decide +kernel
theorem dX9_strongThen_27 : decode cX9_strongThen 27 = .ok (.iadd, 1) := by decide +kernel
theorem dX9_strongThen_28 : decode cX9_strongThen 28 = .ok (.putfield 13, 3) := by decide +kernel
theorem dX9_strongThen_31 : decode cX9_strongThen 31 = .ok (.iinc 4 1, 3) := by decide +kernel
theorem dX9_strongThen_34 : decode cX9_strongThen 34 = .ok (.goto (-24), 3) := by decide +kernel
theorem dX9_strongThen_37 : decode cX9_strongThen 37 = .ok (.aload_n 0, 1) := by decide +kernel
theorem dX9_strongThen_38 : decode cX9_strongThen 38 = .ok (.dup, 1) := by decide +kernel
theorem dX9_strongThen_39 : decode cX9_strongThen 39 = .ok (.getfield 13, 3) := by decide +kernel
theorem dX9_strongThen_42 : decode cX9_strongThen 42 = .ok (.iload_n 3, 1) := by decide +kernel
theorem dX9_strongThen_43 : decode cX9_strongThen 43 = .ok (.isub, 1) := by decide +kernel
theorem dX9_strongThen_44 : decode cX9_strongThen 44 = .ok (.putfield 13, 3) := by decide +kernel
theorem dX9_strongThen_47 : decode cX9_strongThen 47 = .ok (.aload_n 0, 1) := by decide +kernel
theorem dX9_strongThen_48 : decode cX9_strongThen 48 = .ok (.getfield 16, 3) := by decide +kernel
theorem dX9_strongThen_51 : decode cX9_strongThen 51 = .ok (.iload_n 1, 1) := by decide +kernel
theorem dX9_strongThen_52 : decode cX9_strongThen 52 = .ok (.iaload, 1) := by decide +kernel
theorem dX9_strongThen_53 : decode cX9_strongThen 53 = .ok (.ireturn, 1) := by decide +kernel
theorem dX9_was_0 : decode cX9_was 0 = .ok (.aload_n 0, 1) := by decide +kernel
theorem dX9_was_1 : decode cX9_was 1 = .ok (.iload_n 1, 1) := by decide +kernel
theorem dX9_was_2 : decode cX9_was 2 = .ok (.invokevirtual 232, 3) := by decide +kernel
theorem dX9_was_5 : decode cX9_was 5 = .ok (.ifCond .eq 14, 3) := by decide +kernel
theorem dX9_was_8 : decode cX9_was 8 = .ok (.aload_n 0, 1) := by decide +kernel
theorem dX9_was_9 : decode cX9_was 9 = .ok (.iload 4, 2) := by decide +kernel
theorem dX9_was_11 : decode cX9_was 11 = .ok (.iconst 0, 1) := by decide +kernel
theorem dX9_was_12 : decode cX9_was 12 = .ok (.iconst 1, 1) := by decide +kernel
theorem dX9_was_13 : decode cX9_was 13 = .ok (.invokevirtual 224, 3) := by decide +kernel
theorem dX9_was_16 : decode cX9_was 16 = .ok (.ifCond .ne 5, 3) := by decide +kernel
theorem dX9_was_19 : decode cX9_was 19 = .ok (.iconst (-1), 1) := by decide +kernel
theorem dX9_was_20 : decode cX9_was 20 = .ok (.ireturn, 1) := by decide +kernel
theorem dX9_was_21 : decode cX9_was 21 = .ok (.aload_n 0, 1) := by decide +kernel
theorem dX9_was_22 : decode cX9_was 22 = .ok (.iload_n 2, 1) := by decide +kernel
theorem dX9_was_23 : decode cX9_was 23 = .ok (.invokevirtual 228, 3) := by decide +kernel
theorem dX9_was_26 : decode cX9_was 26 = .ok (.ifCond .eq 14, 3) := by decide +kernel
theorem dX9_was_29 : decode cX9_was 29 = .ok (.aload_n 0, 1) := by decide +kernel
theorem dX9_was_30 : decode cX9_was 30 = .ok (.iload_n 3, 1) := by decide +kernel
theorem dX9_was_31 : decode cX9_was 31 = .ok (.iconst 0, 1) := by decide +kernel
theorem dX9_was_32 : decode cX9_was 32 = .ok (.bipush 20, 2) := by decide +kernel
theorem dX9_was_34 : decode cX9_was 34 = .ok (.invokevirtual 224, 3) := by decide +kernel
theorem dX9_was_37 : decode cX9_was 37 = .ok (.ifCond .ne 6, 3) := by decide +kernel
theorem dX9_was_40 : decode cX9_was 40 = .ok (.bipush (-2), 2) := by decide +kernel
theorem dX9_was_42 : decode cX9_was 42 = .ok (.ireturn, 1) := by decide +kernel
theorem dX9_was_43 : decode cX9_was 43 = .ok (.aload_n 0, 1) := by decide +kernel
theorem dX9_was_44 : decode cX9_was 44 = .ok (.getfield 16, 3) := by decide +kernel
theorem dX9_was_47 : decode cX9_was 47 = .ok (.iload_n 1, 1) := by decide +kernel
theorem dX9_was_48 : decode cX9_was 48 = .ok (.iaload, 1) := by decide +kernel
theorem dX9_was_49 : decode cX9_was 49 = .ok (.istore 5, 2) := by decide +kernel
theorem dX9_was_51 : decode cX9_was 51 = .ok (.iconst 0, 1) := by decide +kernel
theorem dX9_was_52 : decode cX9_was 52 = .ok (.istore 6, 2) := by decide +kernel
theorem dX9_was_54 : decode cX9_was 54 = .ok (.bipush (-5), 2) := by decide +kernel
theorem dX9_was_56 : decode cX9_was 56 = .ok (.istore 7, 2) := by decide +kernel
theorem dX9_was_58 : decode cX9_was 58 = .ok (.bipush 99, 2) := by decide +kernel
theorem dX9_was_60 : decode cX9_was 60 = .ok (.istore 8, 2) := by decide +kernel
theorem dX9_was_62 : decode cX9_was 62 = .ok (.iload 8, 2) := by decide +kernel
theorem dX9_was_64 : decode cX9_was 64 = .ok (.ifCond .lt 31, 3) := by decide +kernel
theorem dX9_was_67 : decode cX9_was 67 = .ok (.aload_n 0, 1) := by decide +kernel
theorem dX9_was_68 : decode cX9_was 68 = .ok (.iload_n 1, 1) := by decide +kernel
theorem dX9_was_69 : decode cX9_was 69 = .ok (.iload 8, 2) := by decide +kernel
theorem dX9_was_71 : decode cX9_was 71 = .ok (.iload_n 3, 1) := by decide +kernel
theorem dX9_was_72 : decode cX9_was 72 = .ok (.invokevirtual 394, 3) := by decide +kernel
theorem dX9_was_75 : decode cX9_was 75 = .ok (.iload_n 2, 1) := by decide +kernel
theorem dX9_was_76 : decode cX9_was 76 = .ok (.if_icmp .eq 6, 3) := by decide +kernel
theorem dX9_was_79 : decode cX9_was 79 = .ok (.goto 10, 3) := by decide +kernel
theorem dX9_was_82 : decode cX9_was 82 = .ok (.iinc 6 1, 3) := by decide +kernel
theorem dX9_was_85 : decode cX9_was 85 = .ok (.iload 8, 2) := by decide +kernel
theorem dX9_was_87 : decode cX9_was 87 = .ok (.istore 7, 2) := by decide +kernel
theorem dX9_was_89 : decode cX9_was 89 = .ok (.iinc 8 (-1), 3) := by decide +kernel
theorem dX9_was_92 : decode cX9_was 92 = .ok (.goto (-30), 3) := by decide +kernel
theorem dX9_was_95 : decode cX9_was 95 = .ok (.aload_n 0, 1) := by decide +kernel
theorem dX9_was_96 : decode cX9_was 96 = .ok (.getfield 16, 3) := by decide +kernel
theorem dX9_was_99 : decode cX9_was 99 = .ok (.iload_n 1, 1) := by decide +kernel
theorem dX9_was_100 : decode cX9_was 100 = .ok (.iload 5, 2) := by decide +kernel
theorem dX9_was_102 : decode cX9_was 102 = .ok (.iastore, 1) := by decide +kernel
theorem dX9_was_103 : decode cX9_was 103 = .ok (.iload 4, 2) := by decide +kernel
theorem dX9_was_105 : decode cX9_was 105 = .ok (.ifCond .ne 8, 3) := by decide +kernel
theorem dX9_was_108 : decode cX9_was 108 = .ok (.iload 6, 2) := by decide +kernel
theorem dX9_was_110 : decode cX9_was 110 = .ok (.goto 5, 3) := by decide +kernel
theorem dX9_was_113 : decode cX9_was 113 = .ok (.iload 7, 2) := by decide +kernel
theorem dX9_was_115 : decode cX9_was 115 = .ok (.ireturn, 1) := by decide +kernel
theorem dX9_divisor_0 : decode cX9_divisor 0 = .ok (.iload_n 1, 1) := by decide +kernel
theorem dX9_divisor_1 : decode cX9_divisor 1 = .ok (.istore_n 3, 1) := by decide +kernel
theorem dX9_divisor_2 : decode cX9_divisor 2 = .ok (.iload_n 2, 1) := by decide +kernel
theorem dX9_divisor_3 : decode cX9_divisor 3 = .ok (.istore 4, 2) := by decide +kernel
theorem dX9_divisor_5 : decode cX9_divisor 5 = .ok (.iload 4, 2) := by decide +kernel
theorem dX9_divisor_7 : decode cX9_divisor 7 = .ok (.ifCond .eq 19, 3) := by decide +kernel
theorem dX9_divisor_10 : decode cX9_divisor 10 = .ok (.iload_n 3, 1) := by decide +kernel
theorem dX9_divisor_11 : decode cX9_divisor 11 = .ok (.iload 4, 2) := by decide +kernel
theorem dX9_divisor_13 : decode cX9_divisor 13 = .ok (.irem, 1) := by decide +kernel
theorem dX9_divisor_14 : decode cX9_divisor 14 = .ok (.istore 5, 2) := by decide +kernel
theorem dX9_divisor_16 : decode cX9_divisor 16 = .ok (.iload 4, 2) := by decide +kernel
theorem dX9_divisor_18 : decode cX9_divisor 18 = .ok (.istore_n 3, 1) := by decide +kernel
theorem dX9_divisor_19 : decode cX9_divisor 19 = .ok (.iload 5, 2) := by decide +kernel
theorem dX9_divisor_21 : decode cX9_divisor 21 = .ok (.istore 4, 2) := by decide +kernel
theorem dX9_divisor_23 : decode cX9_divisor 23 = .ok (.goto (-18), 3) := by decide +kernel
theorem dX9_divisor_26 : decode cX9_divisor 26 = .ok (.iload_n 3, 1) := by decide +kernel
theorem dX9_divisor_27 : decode cX9_divisor 27 = .ok (.ireturn, 1) := by decide +kernel
theorem dX9_lowest_0 : decode cX9_lowest 0 = .ok (.aload_n 0, 1) := by decide +kernel
theorem dX9_lowest_1 : decode cX9_lowest 1 = .ok (.iload_n 1, 1) := by decide +kernel
theorem dX9_lowest_2 : decode cX9_lowest 2 = .ok (.iload_n 2, 1) := by decide +kernel
theorem dX9_lowest_3 : decode cX9_lowest 3 = .ok (.invokevirtual 398, 3) := by decide +kernel
theorem dX9_lowest_6 : decode cX9_lowest 6 = .ok (.istore 4, 2) := by decide +kernel
theorem dX9_lowest_8 : decode cX9_lowest 8 = .ok (.iload_n 3, 1) := by decide +kernel
theorem dX9_lowest_9 : decode cX9_lowest 9 = .ok (.ifCond .ne 11, 3) := by decide +kernel
theorem dX9_lowest_12 : decode cX9_lowest 12 = .ok (.iload_n 1, 1) := by decide +kernel
theorem dX9_lowest_13 : decode cX9_lowest 13 = .ok (.iload 4, 2) := by decide +kernel
theorem dX9_lowest_15 : decode cX9_lowest 15 = .ok (.idiv, 1) := by decide +kernel
theorem dX9_lowest_16 : decode cX9_lowest 16 = .ok (.i2l, 1) := by decide +kernel
theorem dX9_lowest_17 : decode cX9_lowest 17 = .ok (.goto 8, 3) := by decide +kernel
theorem dX9_lowest_20 : decode cX9_lowest 20 = .ok (.iload_n 2, 1) := by decide +kernel
theorem dX9_lowest_21 : decode cX9_lowest 21 = .ok (.iload 4, 2) := by decide +kernel
theorem dX9_lowest_23 : decode cX9_lowest 23 = .ok (.idiv, 1) := by decide +kernel
theorem dX9_lowest_24 : decode cX9_lowest 24 = .ok (.i2l, 1) := by decide +kernel
theorem dX9_lowest_25 : decode cX9_lowest 25 = .ok (.lreturn, 1) := by decide +kernel
theorem dX9_odds_0 : decode cX9_odds 0 = .ok (.aload_n 0, 1) := by decide +kernel
theorem dX9_odds_1 : decode cX9_odds 1 = .ok (.iload_n 1, 1) := by decide +kernel
theorem dX9_odds_2 : decode cX9_odds 2 = .ok (.invokevirtual 235, 3) := by decide +kernel
theorem dX9_odds_5 : decode cX9_odds 5 = .ok (.ifCond .eq 13, 3) := by decide +kernel
theorem dX9_odds_8 : decode cX9_odds 8 = .ok (.aload_n 0, 1) := by decide +kernel
theorem dX9_odds_9 : decode cX9_odds 9 = .ok (.iload_n 2, 1) := by decide +kernel
theorem dX9_odds_10 : decode cX9_odds 10 = .ok (.iconst 0, 1) := by decide +kernel
theorem dX9_odds_11 : decode cX9_odds 11 = .ok (.iconst 1, 1) := by decide +kernel
theorem dX9_odds_12 : decode cX9_odds 12 = .ok (.invokevirtual 224, 3) := by decide +kernel
theorem dX9_odds_15 : decode cX9_odds 15 = .ok (.ifCond .ne 7, 3) := by decide +kernel
theorem dX9_odds_18 : decode cX9_odds 18 = .ok (.ldc2_w 401, 3) := by decide +kernel
theorem dX9_odds_21 : decode cX9_odds 21 = .ok (.lreturn, 1) := by decide +kernel
theorem dX9_odds_22 : decode cX9_odds 22 = .ok (.iconst 0, 1) := by decide +kernel
theorem dX9_odds_23 : decode cX9_odds 23 = .ok (.istore_n 3, 1) := by decide +kernel
theorem dX9_odds_24 : decode cX9_odds 24 = .ok (.iconst 0, 1) := by decide +kernel
theorem dX9_odds_25 : decode cX9_odds 25 = .ok (.istore 4, 2) := by decide +kernel
theorem dX9_odds_27 : decode cX9_odds 27 = .ok (.iload 4, 2) := by decide +kernel
theorem dX9_odds_29 : decode cX9_odds 29 = .ok (.bipush 16, 2) := by decide +kernel
theorem dX9_odds_31 : decode cX9_odds 31 = .ok (.if_icmp .ge 56, 3) := by decide +kernel
theorem dX9_odds_34 : decode cX9_odds 34 = .ok (.aload_n 0, 1) := by decide +kernel
theorem dX9_odds_35 : decode cX9_odds 35 = .ok (.getfield 16, 3) := by decide +kernel
theorem dX9_odds_38 : decode cX9_odds 38 = .ok (.iload 4, 2) := by decide +kernel
theorem dX9_odds_40 : decode cX9_odds 40 = .ok (.iaload, 1) := by decide +kernel
theorem dX9_odds_41 : decode cX9_odds 41 = .ok (.istore 5, 2) := by decide +kernel
theorem dX9_odds_43 : decode cX9_odds 43 = .ok (.aload_n 0, 1) := by decide +kernel
theorem dX9_odds_44 : decode cX9_odds 44 = .ok (.getfield 16, 3) := by decide +kernel
theorem dX9_odds_47 : decode cX9_odds 47 = .ok (.iload 4, 2) := by decide +kernel
theorem dX9_odds_49 : decode cX9_odds 49 = .ok (.aload_n 0, 1) := by decide +kernel
theorem dX9_odds_50 : decode cX9_odds 50 = .ok (.iload 4, 2) := by decide +kernel
theorem dX9_odds_52 : decode cX9_odds 52 = .ok (.invokevirtual 348, 3) := by decide +kernel
theorem dX9_odds_55 : decode cX9_odds 55 = .ok (.iastore, 1) := by decide +kernel
theorem dX9_odds_56 : decode cX9_odds 56 = .ok (.iload_n 3, 1) := by decide +kernel
theorem dX9_odds_57 : decode cX9_odds 57 = .ok (.aload_n 0, 1) := by decide +kernel
theorem dX9_odds_58 : decode cX9_odds 58 = .ok (.iload_n 1, 1) := by decide +kernel
theorem dX9_odds_59 : decode cX9_odds 59 = .ok (.invokevirtual 342, 3) := by decide +kernel
theorem dX9_odds_62 : decode cX9_odds 62 = .ok (.ifCond .eq 7, 3) := by decide +kernel
theorem dX9_odds_65 : decode cX9_odds 65 = .ok (.iconst 1, 1) := by decide +kernel
theorem dX9_odds_66 : decode cX9_odds 66 = .ok (.goto 4, 3) := by decide +kernel
theorem dX9_odds_69 : decode cX9_odds 69 = .ok (.iconst 0, 1) := by decide +kernel
theorem dX9_odds_70 : decode cX9_odds 70 = .ok (.iadd, 1) := by decide +kernel
theorem dX9_odds_71 : decode cX9_odds 71 = .ok (.istore_n 3, 1) := by decide +kernel
theorem dX9_odds_72 : decode cX9_odds 72 = .ok (.aload_n 0, 1) := by decide +kernel
theorem dX9_odds_73 : decode cX9_odds 73 = .ok (.getfield 16, 3) := by decide +kernel
theorem dX9_odds_76 : decode cX9_odds 76 = .ok (.iload 4, 2) := by decide +kernel
theorem dX9_odds_78 : decode cX9_odds 78 = .ok (.iload 5, 2) := by decide +kernel
theorem dX9_odds_80 : decode cX9_odds 80 = .ok (.iastore, 1) := by decide +kernel
theorem dX9_odds_81 : decode cX9_odds 81 = .ok (.iinc 4 1, 3) := by decide +kernel
theorem dX9_odds_84 : decode cX9_odds 84 = .ok (.goto (-57), 3) := by decide +kernel
theorem dX9_odds_87 : decode cX9_odds 87 = .ok (.aload_n 0, 1) := by decide +kernel
theorem dX9_odds_88 : decode cX9_odds 88 = .ok (.iload_n 3, 1) := by decide +kernel
theorem dX9_odds_89 : decode cX9_odds 89 = .ok (.bipush 16, 2) := by decide +kernel
theorem dX9_odds_91 : decode cX9_odds 91 = .ok (.iload_n 2, 1) := by decide +kernel
theorem dX9_odds_92 : decode cX9_odds 92 = .ok (.invokevirtual 403, 3) := by decide +kernel
theorem dX9_odds_95 : decode cX9_odds 95 = .ok (.lreturn, 1) := by decide +kernel
theorem dX9_mean_0 : decode cX9_mean 0 = .ok (.aload_n 0, 1) := by decide +kernel
theorem dX9_mean_1 : decode cX9_mean 1 = .ok (.iload_n 1, 1) := by decide +kernel
theorem dX9_mean_2 : decode cX9_mean 2 = .ok (.invokevirtual 367, 3) := by decide +kernel
theorem dX9_mean_5 : decode cX9_mean 5 = .ok (.ifCond .eq 13, 3) := by decide +kernel
theorem dX9_mean_8 : decode cX9_mean 8 = .ok (.aload_n 0, 1) := by decide +kernel
theorem dX9_mean_9 : decode cX9_mean 9 = .ok (.iload_n 2, 1) := by decide +kernel
theorem dX9_mean_10 : decode cX9_mean 10 = .ok (.iconst 0, 1) := by decide +kernel
theorem dX9_mean_11 : decode cX9_mean 11 = .ok (.iconst 1, 1) := by decide +kernel
theorem dX9_mean_12 : decode cX9_mean 12 = .ok (.invokevirtual 224, 3) := by decide +kernel
theorem dX9_mean_15 : decode cX9_mean 15 = .ok (.ifCond .ne 7, 3) := by decide +kernel
theorem dX9_mean_18 : decode cX9_mean 18 = .ok (.ldc2_w 401, 3) := by decide +kernel
theorem dX9_mean_21 : decode cX9_mean 21 = .ok (.lreturn, 1) := by decide +kernel
theorem dX9_mean_22 : decode cX9_mean 22 = .ok (.aload_n 0, 1) := by decide +kernel
theorem dX9_mean_23 : decode cX9_mean 23 = .ok (.invokevirtual 373, 3) := by decide +kernel
theorem dX9_mean_26 : decode cX9_mean 26 = .ok (.aload_n 0, 1) := by decide +kernel
theorem dX9_mean_27 : decode cX9_mean 27 = .ok (.iload_n 1, 1) := by decide +kernel
theorem dX9_mean_28 : decode cX9_mean 28 = .ok (.invokevirtual 370, 3) := by decide +kernel
theorem dX9_mean_31 : decode cX9_mean 31 = .ok (.aload_n 0, 1) := by decide +kernel
theorem dX9_mean_32 : decode cX9_mean 32 = .ok (.invokevirtual 354, 3) := by decide +kernel
theorem dX9_mean_35 : decode cX9_mean 35 = .ok (.istore_n 3, 1) := by decide +kernel
theorem dX9_mean_36 : decode cX9_mean 36 = .ok (.aload_n 0, 1) := by decide +kernel
theorem dX9_mean_37 : decode cX9_mean 37 = .ok (.invokevirtual 376, 3) := by decide +kernel
theorem dX9_mean_40 : decode cX9_mean 40 = .ok (.aload_n 0, 1) := by decide +kernel
theorem dX9_mean_41 : decode cX9_mean 41 = .ok (.iload_n 3, 1) := by decide +kernel
theorem dX9_mean_42 : decode cX9_mean 42 = .ok (.bipush 16, 2) := by decide +kernel
theorem dX9_mean_44 : decode cX9_mean 44 = .ok (.iload_n 2, 1) := by decide +kernel
theorem dX9_mean_45 : decode cX9_mean 45 = .ok (.invokevirtual 403, 3) := by decide +kernel
theorem dX9_mean_48 : decode cX9_mean 48 = .ok (.lreturn, 1) := by decide +kernel
theorem dX9_afternoon_0 : decode cX9_afternoon 0 = .ok (.iload_n 1, 1) := by decide +kernel
theorem dX9_afternoon_1 : decode cX9_afternoon 1 = .ok (.iconst (-1), 1) := by decide +kernel
theorem dX9_afternoon_2 : decode cX9_afternoon 2 = .ok (.if_icmp .ne 10, 3) := by decide +kernel
theorem dX9_afternoon_5 : decode cX9_afternoon 5 = .ok (.aload_n 0, 1) := by decide +kernel
theorem dX9_afternoon_6 : decode cX9_afternoon 6 = .ok (.iconst 0, 1) := by decide +kernel
theorem dX9_afternoon_7 : decode cX9_afternoon 7 = .ok (.putfield 126, 3) := by decide +kernel
theorem dX9_afternoon_10 : decode cX9_afternoon 10 = .ok (.iconst 0, 1) := by decide +kernel
theorem dX9_afternoon_11 : decode cX9_afternoon 11 = .ok (.ireturn, 1) := by decide +kernel
theorem dX9_afternoon_12 : decode cX9_afternoon 12 = .ok (.aload_n 0, 1) := by decide +kernel
theorem dX9_afternoon_13 : decode cX9_afternoon 13 = .ok (.iload_n 1, 1) := by decide +kernel
theorem dX9_afternoon_14 : decode cX9_afternoon 14 = .ok (.iconst 0, 1) := by decide +kernel
theorem dX9_afternoon_15 : decode cX9_afternoon 15 = .ok (.iconst 2, 1) := by decide +kernel
theorem dX9_afternoon_16 : decode cX9_afternoon 16 = .ok (.invokevirtual 224, 3) := by decide +kernel
theorem dX9_afternoon_19 : decode cX9_afternoon 19 = .ok (.ifCond .eq 15, 3) := by decide +kernel
theorem dX9_afternoon_22 : decode cX9_afternoon 22 = .ok (.iload_n 1, 1) := by decide +kernel
theorem dX9_afternoon_23 : decode cX9_afternoon 23 = .ok (.ifCond .le 13, 3) := by decide +kernel
theorem dX9_afternoon_26 : decode cX9_afternoon 26 = .ok (.aload_n 0, 1) := by decide +kernel
theorem dX9_afternoon_27 : decode cX9_afternoon 27 = .ok (.iload_n 2, 1) := by decide +kernel
theorem dX9_afternoon_28 : decode cX9_afternoon 28 = .ok (.invokevirtual 232, 3) := by decide +kernel
theorem dX9_afternoon_31 : decode cX9_afternoon 31 = .ok (.ifCond .ne 5, 3) := by decide +kernel
theorem dX9_afternoon_34 : decode cX9_afternoon 34 = .ok (.iconst (-1), 1) := by decide +kernel
theorem dX9_afternoon_35 : decode cX9_afternoon 35 = .ok (.ireturn, 1) := by decide +kernel
theorem dX9_afternoon_36 : decode cX9_afternoon 36 = .ok (.aload_n 0, 1) := by decide +kernel
theorem dX9_afternoon_37 : decode cX9_afternoon 37 = .ok (.getfield 126, 3) := by decide +kernel
theorem dX9_afternoon_40 : decode cX9_afternoon 40 = .ok (.bipush 10, 2) := by decide +kernel
theorem dX9_afternoon_42 : decode cX9_afternoon 42 = .ok (.if_icmp .ne 6, 3) := by decide +kernel
theorem dX9_afternoon_45 : decode cX9_afternoon 45 = .ok (.bipush (-4), 2) := by decide +kernel
theorem dX9_afternoon_47 : decode cX9_afternoon 47 = .ok (.ireturn, 1) := by decide +kernel
theorem dX9_afternoon_48 : decode cX9_afternoon 48 = .ok (.aload_n 0, 1) := by decide +kernel
theorem dX9_afternoon_49 : decode cX9_afternoon 49 = .ok (.getfield 132, 3) := by decide +kernel
theorem dX9_afternoon_52 : decode cX9_afternoon 52 = .ok (.aload_n 0, 1) := by decide +kernel
theorem dX9_afternoon_53 : decode cX9_afternoon 53 = .ok (.getfield 126, 3) := by decide +kernel
theorem dX9_afternoon_56 : decode cX9_afternoon 56 = .ok (.iload_n 1, 1) := by decide +kernel
theorem dX9_afternoon_57 : decode cX9_afternoon 57 = .ok (.iastore, 1) := by decide +kernel
theorem dX9_afternoon_58 : decode cX9_afternoon 58 = .ok (.aload_n 0, 1) := by decide +kernel
theorem dX9_afternoon_59 : decode cX9_afternoon 59 = .ok (.getfield 135, 3) := by decide +kernel
theorem dX9_afternoon_62 : decode cX9_afternoon 62 = .ok (.aload_n 0, 1) := by decide +kernel
theorem dX9_afternoon_63 : decode cX9_afternoon 63 = .ok (.getfield 126, 3) := by decide +kernel
theorem dX9_afternoon_66 : decode cX9_afternoon 66 = .ok (.iload_n 1, 1) := by decide +kernel
theorem dX9_afternoon_67 : decode cX9_afternoon 67 = .ok (.ifCond .le 7, 3) := by decide +kernel
theorem dX9_afternoon_70 : decode cX9_afternoon 70 = .ok (.iload_n 2, 1) := by decide +kernel
theorem dX9_afternoon_71 : decode cX9_afternoon 71 = .ok (.goto 4, 3) := by decide +kernel
theorem dX9_afternoon_74 : decode cX9_afternoon 74 = .ok (.iconst 0, 1) := by decide +kernel
theorem dX9_afternoon_75 : decode cX9_afternoon 75 = .ok (.iastore, 1) := by decide +kernel
theorem dX9_afternoon_76 : decode cX9_afternoon 76 = .ok (.aload_n 0, 1) := by decide +kernel
theorem dX9_afternoon_77 : decode cX9_afternoon 77 = .ok (.dup, 1) := by decide +kernel
theorem dX9_afternoon_78 : decode cX9_afternoon 78 = .ok (.getfield 126, 3) := by decide +kernel
theorem dX9_afternoon_81 : decode cX9_afternoon 81 = .ok (.iconst 1, 1) := by decide +kernel
theorem dX9_afternoon_82 : decode cX9_afternoon 82 = .ok (.iadd, 1) := by decide +kernel
theorem dX9_afternoon_83 : decode cX9_afternoon 83 = .ok (.putfield 126, 3) := by decide +kernel
theorem dX9_afternoon_86 : decode cX9_afternoon 86 = .ok (.aload_n 0, 1) := by decide +kernel
theorem dX9_afternoon_87 : decode cX9_afternoon 87 = .ok (.getfield 126, 3) := by decide +kernel
theorem dX9_afternoon_90 : decode cX9_afternoon 90 = .ok (.ireturn, 1) := by decide +kernel
theorem dX9_goAfternoon_0 : decode cX9_goAfternoon 0 = .ok (.iload_n 1, 1) := by decide +kernel
theorem dX9_goAfternoon_1 : decode cX9_goAfternoon 1 = .ok (.ifCond .ne 7, 3) := by decide +kernel
theorem dX9_goAfternoon_4 : decode cX9_goAfternoon 4 = .ok (.aload_n 0, 1) := by decide +kernel
theorem dX9_goAfternoon_5 : decode cX9_goAfternoon 5 = .ok (.invokevirtual 364, 3) := by decide +kernel
theorem dX9_goAfternoon_8 : decode cX9_goAfternoon 8 = .ok (.iload_n 1, 1) := by decide +kernel
theorem dX9_goAfternoon_9 : decode cX9_goAfternoon 9 = .ok (.iconst 1, 1) := by decide +kernel
theorem dX9_goAfternoon_10 : decode cX9_goAfternoon 10 = .ok (.if_icmp .ne 14, 3) := by decide +kernel
theorem dX9_goAfternoon_13 : decode cX9_goAfternoon 13 = .ok (.aload_n 0, 1) := by decide +kernel
theorem dX9_goAfternoon_14 : decode cX9_goAfternoon 14 = .ok (.getfield 16, 3) := by decide +kernel
theorem dX9_goAfternoon_17 : decode cX9_goAfternoon 17 = .ok (.iload_n 2, 1) := by decide +kernel
theorem dX9_goAfternoon_18 : decode cX9_goAfternoon 18 = .ok (.aload_n 0, 1) := by decide +kernel
theorem dX9_goAfternoon_19 : decode cX9_goAfternoon 19 = .ok (.iload_n 2, 1) := by decide +kernel
theorem dX9_goAfternoon_20 : decode cX9_goAfternoon 20 = .ok (.invokevirtual 348, 3) := by decide +kernel
theorem dX9_goAfternoon_23 : decode cX9_goAfternoon 23 = .ok (.iastore, 1) := by decide +kernel
theorem dX9_goAfternoon_24 : decode cX9_goAfternoon 24 = .ok (.iload_n 1, 1) := by decide +kernel
theorem dX9_goAfternoon_25 : decode cX9_goAfternoon 25 = .ok (.iconst 2, 1) := by decide +kernel
theorem dX9_goAfternoon_26 : decode cX9_goAfternoon 26 = .ok (.if_icmp .ne 18, 3) := by decide +kernel
theorem dX9_goAfternoon_29 : decode cX9_goAfternoon 29 = .ok (.iload_n 2, 1) := by decide +kernel
theorem dX9_goAfternoon_30 : decode cX9_goAfternoon 30 = .ok (.iconst 4, 1) := by decide +kernel
theorem dX9_goAfternoon_31 : decode cX9_goAfternoon 31 = .ok (.irem, 1) := by decide +kernel
theorem dX9_goAfternoon_32 : decode cX9_goAfternoon 32 = .ok (.iconst 3, 1) := by decide +kernel
theorem dX9_goAfternoon_33 : decode cX9_goAfternoon 33 = .ok (.if_icmp .ge 11, 3) := by decide +kernel
theorem dX9_goAfternoon_36 : decode cX9_goAfternoon 36 = .ok (.aload_n 0, 1) := by decide +kernel
theorem dX9_goAfternoon_37 : decode cX9_goAfternoon 37 = .ok (.iload_n 2, 1) := by decide +kernel
theorem dX9_goAfternoon_38 : decode cX9_goAfternoon 38 = .ok (.iload_n 2, 1) := by decide +kernel
theorem dX9_goAfternoon_39 : decode cX9_goAfternoon 39 = .ok (.iconst 1, 1) := by decide +kernel
theorem dX9_goAfternoon_40 : decode cX9_goAfternoon 40 = .ok (.iadd, 1) := by decide +kernel
theorem dX9_goAfternoon_41 : decode cX9_goAfternoon 41 = .ok (.invokevirtual 249, 3) := by decide +kernel
theorem dX9_goAfternoon_44 : decode cX9_goAfternoon 44 = .ok (.return_, 1) := by decide +kernel
theorem dX9_ends_0 : decode cX9_ends 0 = .ok (.aload_n 0, 1) := by decide +kernel
theorem dX9_ends_1 : decode cX9_ends 1 = .ok (.iload_n 1, 1) := by decide +kernel
theorem dX9_ends_2 : decode cX9_ends 2 = .ok (.iconst 0, 1) := by decide +kernel
theorem dX9_ends_3 : decode cX9_ends 3 = .ok (.iconst 1, 1) := by decide +kernel
theorem dX9_ends_4 : decode cX9_ends 4 = .ok (.invokevirtual 224, 3) := by decide +kernel
theorem dX9_ends_7 : decode cX9_ends 7 = .ok (.ifCond .ne 5, 3) := by decide +kernel
theorem dX9_ends_10 : decode cX9_ends 10 = .ok (.iconst (-1), 1) := by decide +kernel
theorem dX9_ends_11 : decode cX9_ends 11 = .ok (.ireturn, 1) := by decide +kernel
theorem dX9_ends_12 : decode cX9_ends 12 = .ok (.aload_n 0, 1) := by decide +kernel
theorem dX9_ends_13 : decode cX9_ends 13 = .ok (.invokevirtual 373, 3) := by decide +kernel
theorem dX9_ends_16 : decode cX9_ends 16 = .ok (.iconst 0, 1) := by decide +kernel
theorem dX9_ends_17 : decode cX9_ends 17 = .ok (.istore_n 2, 1) := by decide +kernel
theorem dX9_ends_18 : decode cX9_ends 18 = .ok (.iload_n 2, 1) := by decide +kernel
theorem dX9_ends_19 : decode cX9_ends 19 = .ok (.aload_n 0, 1) := by decide +kernel
theorem dX9_ends_20 : decode cX9_ends 20 = .ok (.getfield 126, 3) := by decide +kernel
theorem dX9_ends_23 : decode cX9_ends 23 = .ok (.if_icmp .ge 25, 3) := by decide +kernel
theorem dX9_ends_26 : decode cX9_ends 26 = .ok (.aload_n 0, 1) := by decide +kernel
theorem dX9_ends_27 : decode cX9_ends 27 = .ok (.aload_n 0, 1) := by decide +kernel
theorem dX9_ends_28 : decode cX9_ends 28 = .ok (.getfield 132, 3) := by decide +kernel
theorem dX9_ends_31 : decode cX9_ends 31 = .ok (.iload_n 2, 1) := by decide +kernel
theorem dX9_ends_32 : decode cX9_ends 32 = .ok (.iaload, 1) := by decide +kernel
theorem dX9_ends_33 : decode cX9_ends 33 = .ok (.aload_n 0, 1) := by decide +kernel
theorem dX9_ends_34 : decode cX9_ends 34 = .ok (.getfield 135, 3) := by decide +kernel
theorem dX9_ends_37 : decode cX9_ends 37 = .ok (.iload_n 2, 1) := by decide +kernel
theorem dX9_ends_38 : decode cX9_ends 38 = .ok (.iaload, 1) := by decide +kernel
theorem dX9_ends_39 : decode cX9_ends 39 = .ok (.invokevirtual 407, 3) := by decide +kernel
theorem dX9_ends_42 : decode cX9_ends 42 = .ok (.iinc 2 1, 3) := by decide +kernel
theorem dX9_ends_45 : decode cX9_ends 45 = .ok (.goto (-27), 3) := by decide +kernel
theorem dX9_ends_48 : decode cX9_ends 48 = .ok (.iload_n 1, 1) := by decide +kernel
theorem dX9_ends_49 : decode cX9_ends 49 = .ok (.ifCond .ne 10, 3) := by decide +kernel
theorem dX9_ends_52 : decode cX9_ends 52 = .ok (.aload_n 0, 1) := by decide +kernel
theorem dX9_ends_53 : decode cX9_ends 53 = .ok (.invokevirtual 351, 3) := by decide +kernel
theorem dX9_ends_56 : decode cX9_ends 56 = .ok (.goto 7, 3) := by decide +kernel
theorem dX9_ends_59 : decode cX9_ends 59 = .ok (.aload_n 0, 1) := by decide +kernel
theorem dX9_ends_60 : decode cX9_ends 60 = .ok (.invokevirtual 354, 3) := by decide +kernel
theorem dX9_ends_63 : decode cX9_ends 63 = .ok (.istore_n 2, 1) := by decide +kernel
theorem dX9_ends_64 : decode cX9_ends 64 = .ok (.aload_n 0, 1) := by decide +kernel
theorem dX9_ends_65 : decode cX9_ends 65 = .ok (.invokevirtual 376, 3) := by decide +kernel
theorem dX9_ends_68 : decode cX9_ends 68 = .ok (.iload_n 2, 1) := by decide +kernel
theorem dX9_ends_69 : decode cX9_ends 69 = .ok (.ireturn, 1) := by decide +kernel
theorem dX9_book_0 : decode cX9_book 0 = .ok (.iload_n 1, 1) := by decide +kernel
theorem dX9_book_1 : decode cX9_book 1 = .ok (.iconst (-1), 1) := by decide +kernel
theorem dX9_book_2 : decode cX9_book 2 = .ok (.if_icmp .ne 10, 3) := by decide +kernel
theorem dX9_book_5 : decode cX9_book 5 = .ok (.aload_n 0, 1) := by decide +kernel
theorem dX9_book_6 : decode cX9_book 6 = .ok (.iconst 0, 1) := by decide +kernel
theorem dX9_book_7 : decode cX9_book 7 = .ok (.putfield 129, 3) := by decide +kernel
theorem dX9_book_10 : decode cX9_book 10 = .ok (.iconst 0, 1) := by decide +kernel
theorem dX9_book_11 : decode cX9_book 11 = .ok (.ireturn, 1) := by decide +kernel
theorem dX9_book_12 : decode cX9_book 12 = .ok (.aload_n 0, 1) := by decide +kernel
theorem dX9_book_13 : decode cX9_book 13 = .ok (.iload_n 1, 1) := by decide +kernel
theorem dX9_book_14 : decode cX9_book 14 = .ok (.invokevirtual 232, 3) := by decide +kernel
theorem dX9_book_17 : decode cX9_book 17 = .ok (.ifCond .ne 5, 3) := by decide +kernel
theorem dX9_book_20 : decode cX9_book 20 = .ok (.iconst (-1), 1) := by decide +kernel
theorem dX9_book_21 : decode cX9_book 21 = .ok (.ireturn, 1) := by decide +kernel
theorem dX9_book_22 : decode cX9_book 22 = .ok (.aload_n 0, 1) := by decide +kernel
theorem dX9_book_23 : decode cX9_book 23 = .ok (.iload_n 2, 1) := by decide +kernel
theorem dX9_book_24 : decode cX9_book 24 = .ok (.invokevirtual 228, 3) := by decide +kernel
theorem dX9_book_27 : decode cX9_book 27 = .ok (.ifCond .ne 6, 3) := by decide +kernel
theorem dX9_book_30 : decode cX9_book 30 = .ok (.bipush (-2), 2) := by decide +kernel
theorem dX9_book_32 : decode cX9_book 32 = .ok (.ireturn, 1) := by decide +kernel
theorem dX9_book_33 : decode cX9_book 33 = .ok (.aload_n 0, 1) := by decide +kernel
theorem dX9_book_34 : decode cX9_book 34 = .ok (.getfield 129, 3) := by decide +kernel
theorem dX9_book_37 : decode cX9_book 37 = .ok (.bipush 8, 2) := by decide +kernel
theorem dX9_book_39 : decode cX9_book 39 = .ok (.if_icmp .ne 6, 3) := by decide +kernel
theorem dX9_book_42 : decode cX9_book 42 = .ok (.bipush (-4), 2) := by decide +kernel
theorem dX9_book_44 : decode cX9_book 44 = .ok (.ireturn, 1) := by decide +kernel
theorem dX9_book_45 : decode cX9_book 45 = .ok (.aload_n 0, 1) := by decide +kernel
theorem dX9_book_46 : decode cX9_book 46 = .ok (.getfield 138, 3) := by decide +kernel
theorem dX9_book_49 : decode cX9_book 49 = .ok (.aload_n 0, 1) := by decide +kernel
theorem dX9_book_50 : decode cX9_book 50 = .ok (.getfield 129, 3) := by decide +kernel
theorem dX9_book_53 : decode cX9_book 53 = .ok (.iload_n 1, 1) := by decide +kernel
theorem dX9_book_54 : decode cX9_book 54 = .ok (.iastore, 1) := by decide +kernel
theorem dX9_book_55 : decode cX9_book 55 = .ok (.aload_n 0, 1) := by decide +kernel
theorem dX9_book_56 : decode cX9_book 56 = .ok (.getfield 141, 3) := by decide +kernel
theorem dX9_book_59 : decode cX9_book 59 = .ok (.aload_n 0, 1) := by decide +kernel
theorem dX9_book_60 : decode cX9_book 60 = .ok (.getfield 129, 3) := by decide +kernel
theorem dX9_book_63 : decode cX9_book 63 = .ok (.iload_n 2, 1) := by decide +kernel
theorem dX9_book_64 : decode cX9_book 64 = .ok (.iastore, 1) := by decide +kernel
theorem dX9_book_65 : decode cX9_book 65 = .ok (.aload_n 0, 1) := by decide +kernel
theorem dX9_book_66 : decode cX9_book 66 = .ok (.dup, 1) := by decide +kernel
theorem dX9_book_67 : decode cX9_book 67 = .ok (.getfield 129, 3) := by decide +kernel
theorem dX9_book_70 : decode cX9_book 70 = .ok (.iconst 1, 1) := by decide +kernel
theorem dX9_book_71 : decode cX9_book 71 = .ok (.iadd, 1) := by decide +kernel
theorem dX9_book_72 : decode cX9_book 72 = .ok (.putfield 129, 3) := by decide +kernel
theorem dX9_book_75 : decode cX9_book 75 = .ok (.aload_n 0, 1) := by decide +kernel
theorem dX9_book_76 : decode cX9_book 76 = .ok (.getfield 129, 3) := by decide +kernel
theorem dX9_book_79 : decode cX9_book 79 = .ok (.ireturn, 1) := by decide +kernel
theorem dX9_looked_0 : decode cX9_looked 0 = .ok (.iconst 0, 1) := by decide +kernel
theorem dX9_looked_1 : decode cX9_looked 1 = .ok (.istore_n 1, 1) := by decide +kernel
theorem dX9_looked_2 : decode cX9_looked 2 = .ok (.iload_n 1, 1) := by decide +kernel
theorem dX9_looked_3 : decode cX9_looked 3 = .ok (.aload_n 0, 1) := by decide +kernel
theorem dX9_looked_4 : decode cX9_looked 4 = .ok (.getfield 129, 3) := by decide +kernel
theorem dX9_looked_7 : decode cX9_looked 7 = .ok (.if_icmp .ge 31, 3) := by decide +kernel
theorem dX9_looked_10 : decode cX9_looked 10 = .ok (.aload_n 0, 1) := by decide +kernel
theorem dX9_looked_11 : decode cX9_looked 11 = .ok (.getfield 16, 3) := by decide +kernel
theorem dX9_looked_14 : decode cX9_looked 14 = .ok (.aload_n 0, 1) := by decide +kernel
theorem dX9_looked_15 : decode cX9_looked 15 = .ok (.getfield 138, 3) := by decide +kernel
theorem dX9_looked_18 : decode cX9_looked 18 = .ok (.iload_n 1, 1) := by decide +kernel
theorem dX9_looked_19 : decode cX9_looked 19 = .ok (.iaload, 1) := by decide +kernel
theorem dX9_looked_20 : decode cX9_looked 20 = .ok (.iaload, 1) := by decide +kernel
theorem dX9_looked_21 : decode cX9_looked 21 = .ok (.aload_n 0, 1) := by decide +kernel
theorem dX9_looked_22 : decode cX9_looked 22 = .ok (.getfield 141, 3) := by decide +kernel
theorem dX9_looked_25 : decode cX9_looked 25 = .ok (.iload_n 1, 1) := by decide +kernel
theorem dX9_looked_26 : decode cX9_looked 26 = .ok (.iaload, 1) := by decide +kernel
theorem dX9_looked_27 : decode cX9_looked 27 = .ok (.if_icmp .eq 5, 3) := by decide +kernel
theorem dX9_looked_30 : decode cX9_looked 30 = .ok (.iload_n 1, 1) := by decide +kernel
theorem dX9_looked_31 : decode cX9_looked 31 = .ok (.ireturn, 1) := by decide +kernel
theorem dX9_looked_32 : decode cX9_looked 32 = .ok (.iinc 1 1, 3) := by decide +kernel
theorem dX9_looked_35 : decode cX9_looked 35 = .ok (.goto (-33), 3) := by decide +kernel
theorem dX9_looked_38 : decode cX9_looked 38 = .ok (.bipush (-5), 2) := by decide +kernel
theorem dX9_looked_40 : decode cX9_looked 40 = .ok (.ireturn, 1) := by decide +kernel
theorem dX9_judge_0 : decode cX9_judge 0 = .ok (.aload_n 0, 1) := by decide +kernel
theorem dX9_judge_1 : decode cX9_judge 1 = .ok (.iload_n 1, 1) := by decide +kernel
theorem dX9_judge_2 : decode cX9_judge 2 = .ok (.invokevirtual 410, 3) := by decide +kernel
theorem dX9_judge_5 : decode cX9_judge 5 = .ok (.ifCond .ne 5, 3) := by decide +kernel
theorem dX9_judge_8 : decode cX9_judge 8 = .ok (.iconst (-1), 1) := by decide +kernel
theorem dX9_judge_9 : decode cX9_judge 9 = .ok (.ireturn, 1) := by decide +kernel
theorem dX9_judge_10 : decode cX9_judge 10 = .ok (.aload_n 0, 1) := by decide +kernel
theorem dX9_judge_11 : decode cX9_judge 11 = .ok (.getfield 211, 3) := by decide +kernel
theorem dX9_judge_14 : decode cX9_judge 14 = .ok (.iload_n 1, 1) := by decide +kernel
theorem dX9_judge_15 : decode cX9_judge 15 = .ok (.iaload, 1) := by decide +kernel
theorem dX9_judge_16 : decode cX9_judge 16 = .ok (.ifCond .le 6, 3) := by decide +kernel
theorem dX9_judge_19 : decode cX9_judge 19 = .ok (.bipush (-12), 2) := by decide +kernel
theorem dX9_judge_21 : decode cX9_judge 21 = .ok (.ireturn, 1) := by decide +kernel
theorem dX9_judge_22 : decode cX9_judge 22 = .ok (.iconst 0, 1) := by decide +kernel
theorem dX9_judge_23 : decode cX9_judge 23 = .ok (.istore_n 3, 1) := by decide +kernel
theorem dX9_judge_24 : decode cX9_judge 24 = .ok (.iload_n 3, 1) := by decide +kernel
theorem dX9_judge_25 : decode cX9_judge 25 = .ok (.bipush 16, 2) := by decide +kernel
theorem dX9_judge_27 : decode cX9_judge 27 = .ok (.if_icmp .ge 67, 3) := by decide +kernel
theorem dX9_judge_30 : decode cX9_judge 30 = .ok (.aload_n 0, 1) := by decide +kernel
theorem dX9_judge_31 : decode cX9_judge 31 = .ok (.getfield 211, 3) := by decide +kernel
theorem dX9_judge_34 : decode cX9_judge 34 = .ok (.iload_n 1, 1) := by decide +kernel
theorem dX9_judge_35 : decode cX9_judge 35 = .ok (.iaload, 1) := by decide +kernel
theorem dX9_judge_36 : decode cX9_judge 36 = .ok (.ifCond .lt 21, 3) := by decide +kernel
theorem dX9_judge_39 : decode cX9_judge 39 = .ok (.iload_n 2, 1) := by decide +kernel
theorem dX9_judge_40 : decode cX9_judge 40 = .ok (.ifCond .lt 17, 3) := by decide +kernel
theorem dX9_judge_43 : decode cX9_judge 43 = .ok (.iload_n 2, 1) := by decide +kernel
theorem dX9_judge_44 : decode cX9_judge 44 = .ok (.aload_n 0, 1) := by decide +kernel
theorem dX9_judge_45 : decode cX9_judge 45 = .ok (.getfield 214, 3) := by decide +kernel
theorem dX9_judge_48 : decode cX9_judge 48 = .ok (.iload_n 1, 1) := by decide +kernel
theorem dX9_judge_49 : decode cX9_judge 49 = .ok (.iaload, 1) := by decide +kernel
theorem dX9_judge_50 : decode cX9_judge 50 = .ok (.iload_n 3, 1) := by decide +kernel
theorem dX9_judge_51 : decode cX9_judge 51 = .ok (.isub, 1) := by decide +kernel
theorem dX9_judge_52 : decode cX9_judge 52 = .ok (.iconst 1, 1) := by decide +kernel
theorem dX9_judge_53 : decode cX9_judge 53 = .ok (.isub, 1) := by decide +kernel
theorem dX9_judge_54 : decode cX9_judge 54 = .ok (.if_icmp .le 8, 3) := by decide +kernel
theorem dX9_judge_57 : decode cX9_judge 57 = .ok (.bipush 100, 2) := by decide +kernel
theorem dX9_judge_59 : decode cX9_judge 59 = .ok (.iload_n 3, 1) := by decide +kernel
theorem dX9_judge_60 : decode cX9_judge 60 = .ok (.iadd, 1) := by decide +kernel
theorem dX9_judge_61 : decode cX9_judge 61 = .ok (.ireturn, 1) := by decide +kernel
theorem dX9_judge_62 : decode cX9_judge 62 = .ok (.aload_n 0, 1) := by decide +kernel
theorem dX9_judge_63 : decode cX9_judge 63 = .ok (.getfield 217, 3) := by decide +kernel
theorem dX9_judge_66 : decode cX9_judge 66 = .ok (.bipush 60, 2) := by decide +kernel
theorem dX9_judge_68 : decode cX9_judge 68 = .ok (.iload_n 1, 1) := by decide +kernel
theorem dX9_judge_69 : decode cX9_judge 69 = .ok (.imul, 1) := by decide +kernel
theorem dX9_judge_70 : decode cX9_judge 70 = .ok (.iload_n 2, 1) := by decide +kernel
theorem dX9_judge_71 : decode cX9_judge 71 = .ok (.iadd, 1) := by decide +kernel
theorem dX9_judge_72 : decode cX9_judge 72 = .ok (.iload_n 3, 1) := by decide +kernel
theorem dX9_judge_73 : decode cX9_judge 73 = .ok (.iadd, 1) := by decide +kernel
theorem dX9_judge_74 : decode cX9_judge 74 = .ok (.laload, 1) := by decide +kernel
theorem dX9_judge_75 : decode cX9_judge 75 = .ok (.aload_n 0, 1) := by decide +kernel
theorem dX9_judge_76 : decode cX9_judge 76 = .ok (.getfield 16, 3) := by decide +kernel
theorem dX9_judge_79 : decode cX9_judge 79 = .ok (.iload_n 3, 1) := by decide +kernel
theorem dX9_judge_80 : decode cX9_judge 80 = .ok (.iaload, 1) := by decide +kernel
theorem dX9_judge_81 : decode cX9_judge 81 = .ok (.i2l, 1) := by decide +kernel
theorem dX9_judge_82 : decode cX9_judge 82 = .ok (.lcmp, 1) := by decide +kernel
theorem dX9_judge_83 : decode cX9_judge 83 = .ok (.ifCond .eq 5, 3) := by decide +kernel
theorem dX9_judge_86 : decode cX9_judge 86 = .ok (.iload_n 3, 1) := by decide +kernel
theorem dX9_judge_87 : decode cX9_judge 87 = .ok (.ireturn, 1) := by decide +kernel
theorem dX9_judge_88 : decode cX9_judge 88 = .ok (.iinc 3 1, 3) := by decide +kernel
theorem dX9_judge_91 : decode cX9_judge 91 = .ok (.goto (-67), 3) := by decide +kernel
theorem dX9_judge_94 : decode cX9_judge 94 = .ok (.bipush (-5), 2) := by decide +kernel
theorem dX9_judge_96 : decode cX9_judge 96 = .ok (.ireturn, 1) := by decide +kernel
theorem dX9_image_0 : decode cX9_image 0 = .ok (.aload_n 0, 1) := by decide +kernel
theorem dX9_image_1 : decode cX9_image 1 = .ok (.iconst 1, 1) := by decide +kernel
theorem dX9_image_2 : decode cX9_image 2 = .ok (.putfield 144, 3) := by decide +kernel
theorem dX9_image_5 : decode cX9_image 5 = .ok (.aload_n 0, 1) := by decide +kernel
theorem dX9_image_6 : decode cX9_image 6 = .ok (.aload_n 0, 1) := by decide +kernel
theorem dX9_image_7 : decode cX9_image 7 = .ok (.getfield 35, 3) := by decide +kernel
theorem dX9_image_10 : decode cX9_image 10 = .ok (.putfield 148, 3) := by decide +kernel
theorem dX9_image_13 : decode cX9_image 13 = .ok (.aload_n 0, 1) := by decide +kernel
theorem dX9_image_14 : decode cX9_image 14 = .ok (.aload_n 0, 1) := by decide +kernel
theorem dX9_image_15 : decode cX9_image 15 = .ok (.getfield 7, 3) := by decide +kernel
theorem dX9_image_18 : decode cX9_image 18 = .ok (.putfield 151, 3) := by decide +kernel
theorem dX9_image_21 : decode cX9_image 21 = .ok (.aload_n 0, 1) := by decide +kernel
theorem dX9_image_22 : decode cX9_image 22 = .ok (.aload_n 0, 1) := by decide +kernel
theorem dX9_image_23 : decode cX9_image 23 = .ok (.getfield 13, 3) := by decide +kernel
theorem dX9_image_26 : decode cX9_image 26 = .ok (.putfield 154, 3) := by decide +kernel
theorem dX9_image_29 : decode cX9_image 29 = .ok (.aload_n 0, 1) := by decide +kernel
theorem dX9_image_30 : decode cX9_image 30 = .ok (.aload_n 0, 1) := by decide +kernel
theorem dX9_image_31 : decode cX9_image 31 = .ok (.getfield 99, 3) := by decide +kernel
theorem dX9_image_34 : decode cX9_image 34 = .ok (.putfield 157, 3) := by decide +kernel
theorem dX9_image_37 : decode cX9_image 37 = .ok (.aload_n 0, 1) := by decide +kernel
theorem dX9_image_38 : decode cX9_image 38 = .ok (.aload_n 0, 1) := by decide +kernel
theorem dX9_image_39 : decode cX9_image 39 = .ok (.getfield 111, 3) := by decide +kernel
theorem dX9_image_42 : decode cX9_image 42 = .ok (.putfield 160, 3) := by decide +kernel
theorem dX9_image_45 : decode cX9_image 45 = .ok (.aload_n 0, 1) := by decide +kernel
theorem dX9_image_46 : decode cX9_image 46 = .ok (.aload_n 0, 1) := by decide +kernel
theorem dX9_image_47 : decode cX9_image 47 = .ok (.getfield 126, 3) := by decide +kernel
theorem dX9_image_50 : decode cX9_image 50 = .ok (.putfield 163, 3) := by decide +kernel
theorem dX9_image_53 : decode cX9_image 53 = .ok (.aload_n 0, 1) := by decide +kernel
theorem dX9_image_54 : decode cX9_image 54 = .ok (.aload_n 0, 1) := by decide +kernel
theorem dX9_image_55 : decode cX9_image 55 = .ok (.getfield 129, 3) := by decide +kernel
theorem dX9_image_58 : decode cX9_image 58 = .ok (.putfield 166, 3) := by decide +kernel
theorem dX9_image_61 : decode cX9_image 61 = .ok (.iconst 0, 1) := by decide +kernel
theorem dX9_image_62 : decode cX9_image 62 = .ok (.istore_n 1, 1) := by decide +kernel
theorem dX9_image_63 : decode cX9_image 63 = .ok (.iload_n 1, 1) := by decide +kernel
theorem dX9_image_64 : decode cX9_image 64 = .ok (.bipush 16, 2) := by decide +kernel
theorem dX9_image_66 : decode cX9_image 66 = .ok (.if_icmp .ge 21, 3) := by decide +kernel
theorem dX9_image_69 : decode cX9_image 69 = .ok (.aload_n 0, 1) := by decide +kernel
theorem dX9_image_70 : decode cX9_image 70 = .ok (.getfield 169, 3) := by decide +kernel
theorem dX9_image_73 : decode cX9_image 73 = .ok (.iload_n 1, 1) := by decide +kernel
theorem dX9_image_74 : decode cX9_image 74 = .ok (.aload_n 0, 1) := by decide +kernel
theorem dX9_image_75 : decode cX9_image 75 = .ok (.getfield 16, 3) := by decide +kernel
theorem dX9_image_78 : decode cX9_image 78 = .ok (.iload_n 1, 1) := by decide +kernel
theorem dX9_image_79 : decode cX9_image 79 = .ok (.iaload, 1) := by decide +kernel
theorem dX9_image_80 : decode cX9_image 80 = .ok (.iastore, 1) := by decide +kernel
theorem dX9_image_81 : decode cX9_image 81 = .ok (.iinc 1 1, 3) := by decide +kernel
theorem dX9_image_84 : decode cX9_image 84 = .ok (.goto (-21), 3) := by decide +kernel
theorem dX9_image_87 : decode cX9_image 87 = .ok (.iconst 0, 1) := by decide +kernel
theorem dX9_image_88 : decode cX9_image 88 = .ok (.istore_n 1, 1) := by decide +kernel
theorem dX9_image_89 : decode cX9_image 89 = .ok (.iload_n 1, 1) := by decide +kernel
theorem dX9_image_90 : decode cX9_image 90 = .ok (.iconst 5, 1) := by decide +kernel
theorem dX9_image_91 : decode cX9_image 91 = .ok (.if_icmp .ge 81, 3) := by decide +kernel
theorem dX9_image_94 : decode cX9_image 94 = .ok (.aload_n 0, 1) := by decide +kernel
theorem dX9_image_95 : decode cX9_image 95 = .ok (.getfield 172, 3) := by decide +kernel
theorem dX9_image_98 : decode cX9_image 98 = .ok (.iload_n 1, 1) := by decide +kernel
theorem dX9_image_99 : decode cX9_image 99 = .ok (.aload_n 0, 1) := by decide +kernel
theorem dX9_image_100 : decode cX9_image 100 = .ok (.getfield 20, 3) := by decide +kernel
theorem dX9_image_103 : decode cX9_image 103 = .ok (.iload_n 1, 1) := by decide +kernel
theorem dX9_image_104 : decode cX9_image 104 = .ok (.iaload, 1) := by decide +kernel
theorem dX9_image_105 : decode cX9_image 105 = .ok (.iastore, 1) := by decide +kernel
theorem dX9_image_106 : decode cX9_image 106 = .ok (.aload_n 0, 1) := by decide +kernel
theorem dX9_image_107 : decode cX9_image 107 = .ok (.getfield 175, 3) := by decide +kernel
theorem dX9_image_110 : decode cX9_image 110 = .ok (.iload_n 1, 1) := by decide +kernel
theorem dX9_image_111 : decode cX9_image 111 = .ok (.aload_n 0, 1) := by decide +kernel
theorem dX9_image_112 : decode cX9_image 112 = .ok (.getfield 23, 3) := by decide +kernel
theorem dX9_image_115 : decode cX9_image 115 = .ok (.iload_n 1, 1) := by decide +kernel
theorem dX9_image_116 : decode cX9_image 116 = .ok (.iaload, 1) := by decide +kernel
theorem dX9_image_117 : decode cX9_image 117 = .ok (.iastore, 1) := by decide +kernel
theorem dX9_image_118 : decode cX9_image 118 = .ok (.aload_n 0, 1) := by decide +kernel
theorem dX9_image_119 : decode cX9_image 119 = .ok (.getfield 178, 3) := by decide +kernel
theorem dX9_image_122 : decode cX9_image 122 = .ok (.iload_n 1, 1) := by decide +kernel
theorem dX9_image_123 : decode cX9_image 123 = .ok (.aload_n 0, 1) := by decide +kernel
theorem dX9_image_124 : decode cX9_image 124 = .ok (.getfield 26, 3) := by decide +kernel
theorem dX9_image_127 : decode cX9_image 127 = .ok (.iload_n 1, 1) := by decide +kernel
theorem dX9_image_128 : decode cX9_image 128 = .ok (.iaload, 1) := by decide +kernel
theorem dX9_image_129 : decode cX9_image 129 = .ok (.iastore, 1) := by decide +kernel
theorem dX9_image_130 : decode cX9_image 130 = .ok (.aload_n 0, 1) := by decide +kernel
theorem dX9_image_131 : decode cX9_image 131 = .ok (.getfield 184, 3) := by decide +kernel
theorem dX9_image_134 : decode cX9_image 134 = .ok (.iload_n 1, 1) := by decide +kernel
theorem dX9_image_135 : decode cX9_image 135 = .ok (.aload_n 0, 1) := by decide +kernel
theorem dX9_image_136 : decode cX9_image 136 = .ok (.getfield 114, 3) := by decide +kernel
theorem dX9_image_139 : decode cX9_image 139 = .ok (.iload_n 1, 1) := by decide +kernel
theorem dX9_image_140 : decode cX9_image 140 = .ok (.iaload, 1) := by decide +kernel
theorem dX9_image_141 : decode cX9_image 141 = .ok (.iastore, 1) := by decide +kernel
theorem dX9_image_142 : decode cX9_image 142 = .ok (.aload_n 0, 1) := by decide +kernel
theorem dX9_image_143 : decode cX9_image 143 = .ok (.getfield 202, 3) := by decide +kernel
theorem dX9_image_146 : decode cX9_image 146 = .ok (.iload_n 1, 1) := by decide +kernel
theorem dX9_image_147 : decode cX9_image 147 = .ok (.aload_n 0, 1) := by decide +kernel
theorem dX9_image_148 : decode cX9_image 148 = .ok (.getfield 123, 3) := by decide +kernel
theorem dX9_image_151 : decode cX9_image 151 = .ok (.iload_n 1, 1) := by decide +kernel
theorem dX9_image_152 : decode cX9_image 152 = .ok (.baload, 1) := by decide +kernel
theorem dX9_image_153 : decode cX9_image 153 = .ok (.bastore, 1) := by decide +kernel
theorem dX9_image_154 : decode cX9_image 154 = .ok (.aload_n 0, 1) := by decide +kernel
theorem dX9_image_155 : decode cX9_image 155 = .ok (.getfield 187, 3) := by decide +kernel
theorem dX9_image_158 : decode cX9_image 158 = .ok (.iload_n 1, 1) := by decide +kernel
theorem dX9_image_159 : decode cX9_image 159 = .ok (.aload_n 0, 1) := by decide +kernel
theorem dX9_image_160 : decode cX9_image 160 = .ok (.getfield 117, 3) := by decide +kernel
theorem dX9_image_163 : decode cX9_image 163 = .ok (.iload_n 1, 1) := by decide +kernel
theorem dX9_image_164 : decode cX9_image 164 = .ok (.iaload, 1) := by decide +kernel
theorem dX9_image_165 : decode cX9_image 165 = .ok (.iastore, 1) := by decide +kernel
theorem dX9_image_166 : decode cX9_image 166 = .ok (.iinc 1 1, 3) := by decide +kernel
theorem dX9_image_169 : decode cX9_image 169 = .ok (.goto (-80), 3) := by decide +kernel
theorem dX9_image_172 : decode cX9_image 172 = .ok (.iconst 0, 1) := by decide +kernel
theorem dX9_image_173 : decode cX9_image 173 = .ok (.istore_n 1, 1) := by decide +kernel
theorem dX9_image_174 : decode cX9_image 174 = .ok (.iload_n 1, 1) := by decide +kernel
theorem dX9_image_175 : decode cX9_image 175 = .ok (.bipush 20, 2) := by decide +kernel
theorem dX9_image_177 : decode cX9_image 177 = .ok (.if_icmp .ge 21, 3) := by decide +kernel
theorem dX9_image_180 : decode cX9_image 180 = .ok (.aload_n 0, 1) := by decide +kernel
theorem dX9_image_181 : decode cX9_image 181 = .ok (.getfield 181, 3) := by decide +kernel
theorem dX9_image_184 : decode cX9_image 184 = .ok (.iload_n 1, 1) := by decide +kernel
theorem dX9_image_185 : decode cX9_image 185 = .ok (.aload_n 0, 1) := by decide +kernel
theorem dX9_image_186 : decode cX9_image 186 = .ok (.getfield 29, 3) := by decide +kernel
theorem dX9_image_189 : decode cX9_image 189 = .ok (.iload_n 1, 1) := by decide +kernel
theorem dX9_image_190 : decode cX9_image 190 = .ok (.iaload, 1) := by decide +kernel
theorem dX9_image_191 : decode cX9_image 191 = .ok (.iastore, 1) := by decide +kernel
theorem dX9_image_192 : decode cX9_image 192 = .ok (.iinc 1 1, 3) := by decide +kernel
theorem dX9_image_195 : decode cX9_image 195 = .ok (.goto (-21), 3) := by decide +kernel
theorem dX9_image_198 : decode cX9_image 198 = .ok (.iconst 0, 1) := by decide +kernel
theorem dX9_image_199 : decode cX9_image 199 = .ok (.istore_n 1, 1) := by decide +kernel
theorem dX9_image_200 : decode cX9_image 200 = .ok (.iload_n 1, 1) := by decide +kernel
theorem dX9_image_201 : decode cX9_image 201 = .ok (.bipush 10, 2) := by decide +kernel
theorem dX9_image_203 : decode cX9_image 203 = .ok (.if_icmp .ge 33, 3) := by decide +kernel
theorem dX9_image_206 : decode cX9_image 206 = .ok (.aload_n 0, 1) := by decide +kernel
theorem dX9_image_207 : decode cX9_image 207 = .ok (.getfield 190, 3) := by decide +kernel
theorem dX9_image_210 : decode cX9_image 210 = .ok (.iload_n 1, 1) := by decide +kernel
theorem dX9_image_211 : decode cX9_image 211 = .ok (.aload_n 0, 1) := by decide +kernel
theorem dX9_image_212 : decode cX9_image 212 = .ok (.getfield 132, 3) := by decide +kernel
theorem dX9_image_215 : decode cX9_image 215 = .ok (.iload_n 1, 1) := by decide +kernel
theorem dX9_image_216 : decode cX9_image 216 = .ok (.iaload, 1) := by decide +kernel
theorem dX9_image_217 : decode cX9_image 217 = .ok (.iastore, 1) := by decide +kernel
theorem dX9_image_218 : decode cX9_image 218 = .ok (.aload_n 0, 1) := by decide +kernel
theorem dX9_image_219 : decode cX9_image 219 = .ok (.getfield 193, 3) := by decide +kernel
theorem dX9_image_222 : decode cX9_image 222 = .ok (.iload_n 1, 1) := by decide +kernel
theorem dX9_image_223 : decode cX9_image 223 = .ok (.aload_n 0, 1) := by decide +kernel
theorem dX9_image_224 : decode cX9_image 224 = .ok (.getfield 135, 3) := by decide +kernel
theorem dX9_image_227 : decode cX9_image 227 = .ok (.iload_n 1, 1) := by decide +kernel
theorem dX9_image_228 : decode cX9_image 228 = .ok (.iaload, 1) := by decide +kernel
theorem dX9_image_229 : decode cX9_image 229 = .ok (.iastore, 1) := by decide +kernel
theorem dX9_image_230 : decode cX9_image 230 = .ok (.iinc 1 1, 3) := by decide +kernel
theorem dX9_image_233 : decode cX9_image 233 = .ok (.goto (-33), 3) := by decide +kernel
theorem dX9_image_236 : decode cX9_image 236 = .ok (.iconst 0, 1) := by decide +kernel
theorem dX9_image_237 : decode cX9_image 237 = .ok (.istore_n 1, 1) := by decide +kernel
theorem dX9_image_238 : decode cX9_image 238 = .ok (.iload_n 1, 1) := by decide +kernel
theorem dX9_image_239 : decode cX9_image 239 = .ok (.bipush 8, 2) := by decide +kernel
theorem dX9_image_241 : decode cX9_image 241 = .ok (.if_icmp .ge 33, 3) := by decide +kernel
theorem dX9_image_244 : decode cX9_image 244 = .ok (.aload_n 0, 1) := by decide +kernel
theorem dX9_image_245 : decode cX9_image 245 = .ok (.getfield 196, 3) := by decide +kernel
theorem dX9_image_248 : decode cX9_image 248 = .ok (.iload_n 1, 1) := by decide +kernel
theorem dX9_image_249 : decode cX9_image 249 = .ok (.aload_n 0, 1) := by decide +kernel
theorem dX9_image_250 : decode cX9_image 250 = .ok (.getfield 138, 3) := by decide +kernel
theorem dX9_image_253 : decode cX9_image 253 = .ok (.iload_n 1, 1) := by decide +kernel
theorem dX9_image_254 : decode cX9_image 254 = .ok (.iaload, 1) := by decide +kernel
theorem dX9_image_255 : decode cX9_image 255 = .ok (.iastore, 1) := by decide +kernel
theorem dX9_image_256 : decode cX9_image 256 = .ok (.aload_n 0, 1) := by decide +kernel
theorem dX9_image_257 : decode cX9_image 257 = .ok (.getfield 199, 3) := by decide +kernel
theorem dX9_image_260 : decode cX9_image 260 = .ok (.iload_n 1, 1) := by decide +kernel
theorem dX9_image_261 : decode cX9_image 261 = .ok (.aload_n 0, 1) := by decide +kernel
theorem dX9_image_262 : decode cX9_image 262 = .ok (.getfield 141, 3) := by decide +kernel
theorem dX9_image_265 : decode cX9_image 265 = .ok (.iload_n 1, 1) := by decide +kernel
theorem dX9_image_266 : decode cX9_image 266 = .ok (.iaload, 1) := by decide +kernel
theorem dX9_image_267 : decode cX9_image 267 = .ok (.iastore, 1) := by decide +kernel
theorem dX9_image_268 : decode cX9_image 268 = .ok (.iinc 1 1, 3) := by decide +kernel
theorem dX9_image_271 : decode cX9_image 271 = .ok (.goto (-33), 3) := by decide +kernel
theorem dX9_image_274 : decode cX9_image 274 = .ok (.aload_n 0, 1) := by decide +kernel
theorem dX9_image_275 : decode cX9_image 275 = .ok (.getfield 7, 3) := by decide +kernel
theorem dX9_image_278 : decode cX9_image 278 = .ok (.ireturn, 1) := by decide +kernel
theorem dX9_undo_0 : decode cX9_undo 0 = .ok (.aload_n 0, 1) := by decide +kernel
theorem dX9_undo_1 : decode cX9_undo 1 = .ok (.getfield 144, 3) := by decide +kernel
theorem dX9_undo_4 : decode cX9_undo 4 = .ok (.ifCond .ne 6, 3) := by decide +kernel
theorem dX9_undo_7 : decode cX9_undo 7 = .ok (.bipush (-3), 2) := by decide +kernel
theorem dX9_undo_9 : decode cX9_undo 9 = .ok (.ireturn, 1) := by decide +kernel
theorem dX9_undo_10 : decode cX9_undo 10 = .ok (.aload_n 0, 1) := by decide +kernel
theorem dX9_undo_11 : decode cX9_undo 11 = .ok (.aload_n 0, 1) := by decide +kernel
theorem dX9_undo_12 : decode cX9_undo 12 = .ok (.getfield 148, 3) := by decide +kernel
theorem dX9_undo_15 : decode cX9_undo 15 = .ok (.putfield 35, 3) := by decide +kernel
theorem dX9_undo_18 : decode cX9_undo 18 = .ok (.aload_n 0, 1) := by decide +kernel
theorem dX9_undo_19 : decode cX9_undo 19 = .ok (.aload_n 0, 1) := by decide +kernel
theorem dX9_undo_20 : decode cX9_undo 20 = .ok (.getfield 151, 3) := by decide +kernel
theorem dX9_undo_23 : decode cX9_undo 23 = .ok (.putfield 7, 3) := by decide +kernel
theorem dX9_undo_26 : decode cX9_undo 26 = .ok (.aload_n 0, 1) := by decide +kernel
theorem dX9_undo_27 : decode cX9_undo 27 = .ok (.aload_n 0, 1) := by decide +kernel
theorem dX9_undo_28 : decode cX9_undo 28 = .ok (.getfield 154, 3) := by decide +kernel
theorem dX9_undo_31 : decode cX9_undo 31 = .ok (.putfield 13, 3) := by decide +kernel
theorem dX9_undo_34 : decode cX9_undo 34 = .ok (.aload_n 0, 1) := by decide +kernel
theorem dX9_undo_35 : decode cX9_undo 35 = .ok (.aload_n 0, 1) := by decide +kernel
theorem dX9_undo_36 : decode cX9_undo 36 = .ok (.getfield 157, 3) := by decide +kernel
theorem dX9_undo_39 : decode cX9_undo 39 = .ok (.putfield 99, 3) := by decide +kernel
theorem dX9_undo_42 : decode cX9_undo 42 = .ok (.aload_n 0, 1) := by decide +kernel
theorem dX9_undo_43 : decode cX9_undo 43 = .ok (.aload_n 0, 1) := by decide +kernel
theorem dX9_undo_44 : decode cX9_undo 44 = .ok (.getfield 160, 3) := by decide +kernel
theorem dX9_undo_47 : decode cX9_undo 47 = .ok (.putfield 111, 3) := by decide +kernel
theorem dX9_undo_50 : decode cX9_undo 50 = .ok (.aload_n 0, 1) := by decide +kernel
theorem dX9_undo_51 : decode cX9_undo 51 = .ok (.aload_n 0, 1) := by decide +kernel
theorem dX9_undo_52 : decode cX9_undo 52 = .ok (.getfield 163, 3) := by decide +kernel
theorem dX9_undo_55 : decode cX9_undo 55 = .ok (.putfield 126, 3) := by decide +kernel
theorem dX9_undo_58 : decode cX9_undo 58 = .ok (.aload_n 0, 1) := by decide +kernel
theorem dX9_undo_59 : decode cX9_undo 59 = .ok (.aload_n 0, 1) := by decide +kernel
theorem dX9_undo_60 : decode cX9_undo 60 = .ok (.getfield 166, 3) := by decide +kernel
theorem dX9_undo_63 : decode cX9_undo 63 = .ok (.putfield 129, 3) := by decide +kernel
theorem dX9_undo_66 : decode cX9_undo 66 = .ok (.iconst 0, 1) := by decide +kernel
theorem dX9_undo_67 : decode cX9_undo 67 = .ok (.istore_n 1, 1) := by decide +kernel
theorem dX9_undo_68 : decode cX9_undo 68 = .ok (.iload_n 1, 1) := by decide +kernel
theorem dX9_undo_69 : decode cX9_undo 69 = .ok (.bipush 16, 2) := by decide +kernel
theorem dX9_undo_71 : decode cX9_undo 71 = .ok (.if_icmp .ge 21, 3) := by decide +kernel
theorem dX9_undo_74 : decode cX9_undo 74 = .ok (.aload_n 0, 1) := by decide +kernel
theorem dX9_undo_75 : decode cX9_undo 75 = .ok (.getfield 16, 3) := by decide +kernel
theorem dX9_undo_78 : decode cX9_undo 78 = .ok (.iload_n 1, 1) := by decide +kernel
theorem dX9_undo_79 : decode cX9_undo 79 = .ok (.aload_n 0, 1) := by decide +kernel
theorem dX9_undo_80 : decode cX9_undo 80 = .ok (.getfield 169, 3) := by decide +kernel
theorem dX9_undo_83 : decode cX9_undo 83 = .ok (.iload_n 1, 1) := by decide +kernel
theorem dX9_undo_84 : decode cX9_undo 84 = .ok (.iaload, 1) := by decide +kernel
theorem dX9_undo_85 : decode cX9_undo 85 = .ok (.iastore, 1) := by decide +kernel
theorem dX9_undo_86 : decode cX9_undo 86 = .ok (.iinc 1 1, 3) := by decide +kernel
theorem dX9_undo_89 : decode cX9_undo 89 = .ok (.goto (-21), 3) := by decide +kernel
theorem dX9_undo_92 : decode cX9_undo 92 = .ok (.iconst 0, 1) := by decide +kernel
theorem dX9_undo_93 : decode cX9_undo 93 = .ok (.istore_n 1, 1) := by decide +kernel
theorem dX9_undo_94 : decode cX9_undo 94 = .ok (.iload_n 1, 1) := by decide +kernel
theorem dX9_undo_95 : decode cX9_undo 95 = .ok (.iconst 5, 1) := by decide +kernel
theorem dX9_undo_96 : decode cX9_undo 96 = .ok (.if_icmp .ge 81, 3) := by decide +kernel
theorem dX9_undo_99 : decode cX9_undo 99 = .ok (.aload_n 0, 1) := by decide +kernel
theorem dX9_undo_100 : decode cX9_undo 100 = .ok (.getfield 20, 3) := by decide +kernel
theorem dX9_undo_103 : decode cX9_undo 103 = .ok (.iload_n 1, 1) := by decide +kernel
theorem dX9_undo_104 : decode cX9_undo 104 = .ok (.aload_n 0, 1) := by decide +kernel
theorem dX9_undo_105 : decode cX9_undo 105 = .ok (.getfield 172, 3) := by decide +kernel
theorem dX9_undo_108 : decode cX9_undo 108 = .ok (.iload_n 1, 1) := by decide +kernel
theorem dX9_undo_109 : decode cX9_undo 109 = .ok (.iaload, 1) := by decide +kernel
theorem dX9_undo_110 : decode cX9_undo 110 = .ok (.iastore, 1) := by decide +kernel
theorem dX9_undo_111 : decode cX9_undo 111 = .ok (.aload_n 0, 1) := by decide +kernel
theorem dX9_undo_112 : decode cX9_undo 112 = .ok (.getfield 23, 3) := by decide +kernel
theorem dX9_undo_115 : decode cX9_undo 115 = .ok (.iload_n 1, 1) := by decide +kernel
theorem dX9_undo_116 : decode cX9_undo 116 = .ok (.aload_n 0, 1) := by decide +kernel
theorem dX9_undo_117 : decode cX9_undo 117 = .ok (.getfield 175, 3) := by decide +kernel
theorem dX9_undo_120 : decode cX9_undo 120 = .ok (.iload_n 1, 1) := by decide +kernel
theorem dX9_undo_121 : decode cX9_undo 121 = .ok (.iaload, 1) := by decide +kernel
theorem dX9_undo_122 : decode cX9_undo 122 = .ok (.iastore, 1) := by decide +kernel
theorem dX9_undo_123 : decode cX9_undo 123 = .ok (.aload_n 0, 1) := by decide +kernel
theorem dX9_undo_124 : decode cX9_undo 124 = .ok (.getfield 26, 3) := by decide +kernel
theorem dX9_undo_127 : decode cX9_undo 127 = .ok (.iload_n 1, 1) := by decide +kernel
theorem dX9_undo_128 : decode cX9_undo 128 = .ok (.aload_n 0, 1) := by decide +kernel
theorem dX9_undo_129 : decode cX9_undo 129 = .ok (.getfield 178, 3) := by decide +kernel
theorem dX9_undo_132 : decode cX9_undo 132 = .ok (.iload_n 1, 1) := by decide +kernel
theorem dX9_undo_133 : decode cX9_undo 133 = .ok (.iaload, 1) := by decide +kernel
theorem dX9_undo_134 : decode cX9_undo 134 = .ok (.iastore, 1) := by decide +kernel
theorem dX9_undo_135 : decode cX9_undo 135 = .ok (.aload_n 0, 1) := by decide +kernel
theorem dX9_undo_136 : decode cX9_undo 136 = .ok (.getfield 114, 3) := by decide +kernel
theorem dX9_undo_139 : decode cX9_undo 139 = .ok (.iload_n 1, 1) := by decide +kernel
theorem dX9_undo_140 : decode cX9_undo 140 = .ok (.aload_n 0, 1) := by decide +kernel
theorem dX9_undo_141 : decode cX9_undo 141 = .ok (.getfield 184, 3) := by decide +kernel
theorem dX9_undo_144 : decode cX9_undo 144 = .ok (.iload_n 1, 1) := by decide +kernel
theorem dX9_undo_145 : decode cX9_undo 145 = .ok (.iaload, 1) := by decide +kernel
theorem dX9_undo_146 : decode cX9_undo 146 = .ok (.iastore, 1) := by decide +kernel
theorem dX9_undo_147 : decode cX9_undo 147 = .ok (.aload_n 0, 1) := by decide +kernel
theorem dX9_undo_148 : decode cX9_undo 148 = .ok (.getfield 123, 3) := by decide +kernel
theorem dX9_undo_151 : decode cX9_undo 151 = .ok (.iload_n 1, 1) := by decide +kernel
theorem dX9_undo_152 : decode cX9_undo 152 = .ok (.aload_n 0, 1) := by decide +kernel
theorem dX9_undo_153 : decode cX9_undo 153 = .ok (.getfield 202, 3) := by decide +kernel
theorem dX9_undo_156 : decode cX9_undo 156 = .ok (.iload_n 1, 1) := by decide +kernel
theorem dX9_undo_157 : decode cX9_undo 157 = .ok (.baload, 1) := by decide +kernel
theorem dX9_undo_158 : decode cX9_undo 158 = .ok (.bastore, 1) := by decide +kernel
theorem dX9_undo_159 : decode cX9_undo 159 = .ok (.aload_n 0, 1) := by decide +kernel
theorem dX9_undo_160 : decode cX9_undo 160 = .ok (.getfield 117, 3) := by decide +kernel
theorem dX9_undo_163 : decode cX9_undo 163 = .ok (.iload_n 1, 1) := by decide +kernel
theorem dX9_undo_164 : decode cX9_undo 164 = .ok (.aload_n 0, 1) := by decide +kernel
theorem dX9_undo_165 : decode cX9_undo 165 = .ok (.getfield 187, 3) := by decide +kernel
theorem dX9_undo_168 : decode cX9_undo 168 = .ok (.iload_n 1, 1) := by decide +kernel
theorem dX9_undo_169 : decode cX9_undo 169 = .ok (.iaload, 1) := by decide +kernel
theorem dX9_undo_170 : decode cX9_undo 170 = .ok (.iastore, 1) := by decide +kernel
theorem dX9_undo_171 : decode cX9_undo 171 = .ok (.iinc 1 1, 3) := by decide +kernel
theorem dX9_undo_174 : decode cX9_undo 174 = .ok (.goto (-80), 3) := by decide +kernel
theorem dX9_undo_177 : decode cX9_undo 177 = .ok (.iconst 0, 1) := by decide +kernel
theorem dX9_undo_178 : decode cX9_undo 178 = .ok (.istore_n 1, 1) := by decide +kernel
theorem dX9_undo_179 : decode cX9_undo 179 = .ok (.iload_n 1, 1) := by decide +kernel
theorem dX9_undo_180 : decode cX9_undo 180 = .ok (.bipush 20, 2) := by decide +kernel
theorem dX9_undo_182 : decode cX9_undo 182 = .ok (.if_icmp .ge 21, 3) := by decide +kernel
theorem dX9_undo_185 : decode cX9_undo 185 = .ok (.aload_n 0, 1) := by decide +kernel
theorem dX9_undo_186 : decode cX9_undo 186 = .ok (.getfield 29, 3) := by decide +kernel
theorem dX9_undo_189 : decode cX9_undo 189 = .ok (.iload_n 1, 1) := by decide +kernel
theorem dX9_undo_190 : decode cX9_undo 190 = .ok (.aload_n 0, 1) := by decide +kernel
theorem dX9_undo_191 : decode cX9_undo 191 = .ok (.getfield 181, 3) := by decide +kernel
theorem dX9_undo_194 : decode cX9_undo 194 = .ok (.iload_n 1, 1) := by decide +kernel
theorem dX9_undo_195 : decode cX9_undo 195 = .ok (.iaload, 1) := by decide +kernel
theorem dX9_undo_196 : decode cX9_undo 196 = .ok (.iastore, 1) := by decide +kernel
theorem dX9_undo_197 : decode cX9_undo 197 = .ok (.iinc 1 1, 3) := by decide +kernel
theorem dX9_undo_200 : decode cX9_undo 200 = .ok (.goto (-21), 3) := by decide +kernel
theorem dX9_undo_203 : decode cX9_undo 203 = .ok (.iconst 0, 1) := by decide +kernel
theorem dX9_undo_204 : decode cX9_undo 204 = .ok (.istore_n 1, 1) := by decide +kernel
theorem dX9_undo_205 : decode cX9_undo 205 = .ok (.iload_n 1, 1) := by decide +kernel
theorem dX9_undo_206 : decode cX9_undo 206 = .ok (.bipush 10, 2) := by decide +kernel
theorem dX9_undo_208 : decode cX9_undo 208 = .ok (.if_icmp .ge 33, 3) := by decide +kernel
theorem dX9_undo_211 : decode cX9_undo 211 = .ok (.aload_n 0, 1) := by decide +kernel
theorem dX9_undo_212 : decode cX9_undo 212 = .ok (.getfield 132, 3) := by decide +kernel
theorem dX9_undo_215 : decode cX9_undo 215 = .ok (.iload_n 1, 1) := by decide +kernel
theorem dX9_undo_216 : decode cX9_undo 216 = .ok (.aload_n 0, 1) := by decide +kernel
theorem dX9_undo_217 : decode cX9_undo 217 = .ok (.getfield 190, 3) := by decide +kernel
theorem dX9_undo_220 : decode cX9_undo 220 = .ok (.iload_n 1, 1) := by decide +kernel
theorem dX9_undo_221 : decode cX9_undo 221 = .ok (.iaload, 1) := by decide +kernel
theorem dX9_undo_222 : decode cX9_undo 222 = .ok (.iastore, 1) := by decide +kernel
theorem dX9_undo_223 : decode cX9_undo 223 = .ok (.aload_n 0, 1) := by decide +kernel
theorem dX9_undo_224 : decode cX9_undo 224 = .ok (.getfield 135, 3) := by decide +kernel
theorem dX9_undo_227 : decode cX9_undo 227 = .ok (.iload_n 1, 1) := by decide +kernel
theorem dX9_undo_228 : decode cX9_undo 228 = .ok (.aload_n 0, 1) := by decide +kernel
theorem dX9_undo_229 : decode cX9_undo 229 = .ok (.getfield 193, 3) := by decide +kernel
theorem dX9_undo_232 : decode cX9_undo 232 = .ok (.iload_n 1, 1) := by decide +kernel
theorem dX9_undo_233 : decode cX9_undo 233 = .ok (.iaload, 1) := by decide +kernel
theorem dX9_undo_234 : decode cX9_undo 234 = .ok (.iastore, 1) := by decide +kernel
theorem dX9_undo_235 : decode cX9_undo 235 = .ok (.iinc 1 1, 3) := by decide +kernel
theorem dX9_undo_238 : decode cX9_undo 238 = .ok (.goto (-33), 3) := by decide +kernel
theorem dX9_undo_241 : decode cX9_undo 241 = .ok (.iconst 0, 1) := by decide +kernel
theorem dX9_undo_242 : decode cX9_undo 242 = .ok (.istore_n 1, 1) := by decide +kernel
theorem dX9_undo_243 : decode cX9_undo 243 = .ok (.iload_n 1, 1) := by decide +kernel
theorem dX9_undo_244 : decode cX9_undo 244 = .ok (.bipush 8, 2) := by decide +kernel
theorem dX9_undo_246 : decode cX9_undo 246 = .ok (.if_icmp .ge 33, 3) := by decide +kernel
theorem dX9_undo_249 : decode cX9_undo 249 = .ok (.aload_n 0, 1) := by decide +kernel
theorem dX9_undo_250 : decode cX9_undo 250 = .ok (.getfield 138, 3) := by decide +kernel
theorem dX9_undo_253 : decode cX9_undo 253 = .ok (.iload_n 1, 1) := by decide +kernel
theorem dX9_undo_254 : decode cX9_undo 254 = .ok (.aload_n 0, 1) := by decide +kernel
theorem dX9_undo_255 : decode cX9_undo 255 = .ok (.getfield 196, 3) := by decide +kernel
theorem dX9_undo_258 : decode cX9_undo 258 = .ok (.iload_n 1, 1) := by decide +kernel
theorem dX9_undo_259 : decode cX9_undo 259 = .ok (.iaload, 1) := by decide +kernel
theorem dX9_undo_260 : decode cX9_undo 260 = .ok (.iastore, 1) := by decide +kernel
theorem dX9_undo_261 : decode cX9_undo 261 = .ok (.aload_n 0, 1) := by decide +kernel
theorem dX9_undo_262 : decode cX9_undo 262 = .ok (.getfield 141, 3) := by decide +kernel
theorem dX9_undo_265 : decode cX9_undo 265 = .ok (.iload_n 1, 1) := by decide +kernel
theorem dX9_undo_266 : decode cX9_undo 266 = .ok (.aload_n 0, 1) := by decide +kernel
theorem dX9_undo_267 : decode cX9_undo 267 = .ok (.getfield 199, 3) := by decide +kernel
theorem dX9_undo_270 : decode cX9_undo 270 = .ok (.iload_n 1, 1) := by decide +kernel
theorem dX9_undo_271 : decode cX9_undo 271 = .ok (.iaload, 1) := by decide +kernel
theorem dX9_undo_272 : decode cX9_undo 272 = .ok (.iastore, 1) := by decide +kernel
theorem dX9_undo_273 : decode cX9_undo 273 = .ok (.iinc 1 1, 3) := by decide +kernel
theorem dX9_undo_276 : decode cX9_undo 276 = .ok (.goto (-33), 3) := by decide +kernel
theorem dX9_undo_279 : decode cX9_undo 279 = .ok (.aload_n 0, 1) := by decide +kernel
theorem dX9_undo_280 : decode cX9_undo 280 = .ok (.getfield 7, 3) := by decide +kernel
theorem dX9_undo_283 : decode cX9_undo 283 = .ok (.ireturn, 1) := by decide +kernel
theorem dX9_body_0 : decode cX9_body 0 = .ok (.aload_n 0, 1) := by decide +kernel
theorem dX9_body_1 : decode cX9_body 1 = .ok (.getfield 205, 3) := by decide +kernel
theorem dX9_body_4 : decode cX9_body 4 = .ok (.bipush 20, 2) := by decide +kernel
theorem dX9_body_6 : decode cX9_body 6 = .ok (.if_icmp .ge 13, 3) := by decide +kernel
theorem dX9_body_9 : decode cX9_body 9 = .ok (.aload_n 0, 1) := by decide +kernel
theorem dX9_body_10 : decode cX9_body 10 = .ok (.getfield 208, 3) := by decide +kernel
theorem dX9_body_13 : decode cX9_body 13 = .ok (.aload_n 0, 1) := by decide +kernel
theorem dX9_body_14 : decode cX9_body 14 = .ok (.getfield 205, 3) := by decide +kernel
theorem dX9_body_17 : decode cX9_body 17 = .ok (.iload_n 1, 1) := by decide +kernel
theorem dX9_body_18 : decode cX9_body 18 = .ok (.iastore, 1) := by decide +kernel
theorem dX9_body_19 : decode cX9_body 19 = .ok (.aload_n 0, 1) := by decide +kernel
theorem dX9_body_20 : decode cX9_body 20 = .ok (.dup, 1) := by decide +kernel
theorem dX9_body_21 : decode cX9_body 21 = .ok (.getfield 205, 3) := by decide +kernel
theorem dX9_body_24 : decode cX9_body 24 = .ok (.iconst 1, 1) := by decide +kernel
theorem dX9_body_25 : decode cX9_body 25 = .ok (.iadd, 1) := by decide +kernel
theorem dX9_body_26 : decode cX9_body 26 = .ok (.putfield 205, 3) := by decide +kernel
theorem dX9_body_29 : decode cX9_body 29 = .ok (.return_, 1) := by decide +kernel
theorem dX9_walkerWalks_0 : decode cX9_walkerWalks 0 = .ok (.aload_n 0, 1) := by decide +kernel
theorem dX9_walkerWalks_1 : decode cX9_walkerWalks 1 = .ok (.bipush 10, 2) := by decide +kernel
theorem dX9_walkerWalks_3 : decode cX9_walkerWalks 3 = .ok (.invokevirtual 413, 3) := by decide +kernel
theorem dX9_walkerWalks_6 : decode cX9_walkerWalks 6 = .ok (.iload_n 2, 1) := by decide +kernel
theorem dX9_walkerWalks_7 : decode cX9_walkerWalks 7 = .ok (.iload_n 1, 1) := by decide +kernel
theorem dX9_walkerWalks_8 : decode cX9_walkerWalks 8 = .ok (.iadd, 1) := by decide +kernel
theorem dX9_walkerWalks_9 : decode cX9_walkerWalks 9 = .ok (.ireturn, 1) := by decide +kernel
theorem dX9_walksAct_0 : decode cX9_walksAct 0 = .ok (.aload_n 0, 1) := by decide +kernel
theorem dX9_walksAct_1 : decode cX9_walksAct 1 = .ok (.getfield 20, 3) := by decide +kernel
theorem dX9_walksAct_4 : decode cX9_walksAct 4 = .ok (.iload_n 1, 1) := by decide +kernel
theorem dX9_walksAct_5 : decode cX9_walksAct 5 = .ok (.iaload, 1) := by decide +kernel
theorem dX9_walksAct_6 : decode cX9_walksAct 6 = .ok (.tableswitch 83 2 6 #[34, 83, 49, 34, 63], 34) := by decide +kernel
theorem dX9_walksAct_40 : decode cX9_walksAct 40 = .ok (.aload_n 0, 1) := by decide +kernel
theorem dX9_walksAct_41 : decode cX9_walksAct 41 = .ok (.bipush 30, 2) := by decide +kernel
theorem dX9_walksAct_43 : decode cX9_walksAct 43 = .ok (.invokevirtual 413, 3) := by decide +kernel
theorem dX9_walksAct_46 : decode cX9_walksAct 46 = .ok (.aload_n 0, 1) := by decide +kernel
theorem dX9_walksAct_47 : decode cX9_walksAct 47 = .ok (.iload_n 1, 1) := by decide +kernel
theorem dX9_walksAct_48 : decode cX9_walksAct 48 = .ok (.iload_n 2, 1) := by decide +kernel
theorem dX9_walksAct_49 : decode cX9_walksAct 49 = .ok (.iconst 3, 1) := by decide +kernel
theorem dX9_walksAct_50 : decode cX9_walksAct 50 = .ok (.imul, 1) := by decide +kernel
theorem dX9_walksAct_51 : decode cX9_walksAct 51 = .ok (.invokevirtual 416, 3) := by decide +kernel
theorem dX9_walksAct_54 : decode cX9_walksAct 54 = .ok (.ireturn, 1) := by decide +kernel
theorem dX9_walksAct_55 : decode cX9_walksAct 55 = .ok (.aload_n 0, 1) := by decide +kernel
theorem dX9_walksAct_56 : decode cX9_walksAct 56 = .ok (.bipush 50, 2) := by decide +kernel
theorem dX9_walksAct_58 : decode cX9_walksAct 58 = .ok (.invokevirtual 413, 3) := by decide +kernel
theorem dX9_walksAct_61 : decode cX9_walksAct 61 = .ok (.aload_n 0, 1) := by decide +kernel
theorem dX9_walksAct_62 : decode cX9_walksAct 62 = .ok (.iload_n 1, 1) := by decide +kernel
theorem dX9_walksAct_63 : decode cX9_walksAct 63 = .ok (.iload_n 2, 1) := by decide +kernel
theorem dX9_walksAct_64 : decode cX9_walksAct 64 = .ok (.invokevirtual 416, 3) := by decide +kernel
theorem dX9_walksAct_67 : decode cX9_walksAct 67 = .ok (.ineg, 1) := by decide +kernel
theorem dX9_walksAct_68 : decode cX9_walksAct 68 = .ok (.ireturn, 1) := by decide +kernel
theorem dX9_walksAct_69 : decode cX9_walksAct 69 = .ok (.aload_n 0, 1) := by decide +kernel
theorem dX9_walksAct_70 : decode cX9_walksAct 70 = .ok (.bipush 71, 2) := by decide +kernel
theorem dX9_walksAct_72 : decode cX9_walksAct 72 = .ok (.invokevirtual 413, 3) := by decide +kernel
theorem dX9_walksAct_75 : decode cX9_walksAct 75 = .ok (.aload_n 0, 1) := by decide +kernel
theorem dX9_walksAct_76 : decode cX9_walksAct 76 = .ok (.iload_n 1, 1) := by decide +kernel
theorem dX9_walksAct_77 : decode cX9_walksAct 77 = .ok (.iload_n 2, 1) := by decide +kernel
theorem dX9_walksAct_78 : decode cX9_walksAct 78 = .ok (.invokevirtual 416, 3) := by decide +kernel
theorem dX9_walksAct_81 : decode cX9_walksAct 81 = .ok (.aload_n 0, 1) := by decide +kernel
theorem dX9_walksAct_82 : decode cX9_walksAct 82 = .ok (.getfield 23, 3) := by decide +kernel
theorem dX9_walksAct_85 : decode cX9_walksAct 85 = .ok (.iload_n 1, 1) := by decide +kernel
theorem dX9_walksAct_86 : decode cX9_walksAct 86 = .ok (.iaload, 1) := by decide +kernel
theorem dX9_walksAct_87 : decode cX9_walksAct 87 = .ok (.ixor, 1) := by decide +kernel
theorem dX9_walksAct_88 : decode cX9_walksAct 88 = .ok (.ireturn, 1) := by decide +kernel
theorem dX9_walksAct_89 : decode cX9_walksAct 89 = .ok (.aload_n 0, 1) := by decide +kernel
theorem dX9_walksAct_90 : decode cX9_walksAct 90 = .ok (.iload_n 1, 1) := by decide +kernel
theorem dX9_walksAct_91 : decode cX9_walksAct 91 = .ok (.iload_n 2, 1) := by decide +kernel
theorem dX9_walksAct_92 : decode cX9_walksAct 92 = .ok (.invokevirtual 416, 3) := by decide +kernel
theorem dX9_walksAct_95 : decode cX9_walksAct 95 = .ok (.ireturn, 1) := by decide +kernel
theorem dX9_walkerSinks_0 : decode cX9_walkerSinks 0 = .ok (.aload_n 0, 1) := by decide +kernel
theorem dX9_walkerSinks_1 : decode cX9_walkerSinks 1 = .ok (.bipush 11, 2) := by decide +kernel
theorem dX9_walkerSinks_3 : decode cX9_walkerSinks 3 = .ok (.invokevirtual 413, 3) := by decide +kernel
theorem dX9_walkerSinks_6 : decode cX9_walkerSinks 6 = .ok (.aload_n 0, 1) := by decide +kernel
theorem dX9_walkerSinks_7 : decode cX9_walkerSinks 7 = .ok (.iload_n 1, 1) := by decide +kernel
theorem dX9_walkerSinks_8 : decode cX9_walkerSinks 8 = .ok (.iload_n 2, 1) := by decide +kernel
theorem dX9_walkerSinks_9 : decode cX9_walkerSinks 9 = .ok (.invokevirtual 419, 3) := by decide +kernel
theorem dX9_walkerSinks_12 : decode cX9_walkerSinks 12 = .ok (.aload_n 0, 1) := by decide +kernel
theorem dX9_walkerSinks_13 : decode cX9_walkerSinks 13 = .ok (.getfield 23, 3) := by decide +kernel
theorem dX9_walkerSinks_16 : decode cX9_walkerSinks 16 = .ok (.iload_n 1, 1) := by decide +kernel
theorem dX9_walkerSinks_17 : decode cX9_walkerSinks 17 = .ok (.iaload, 1) := by decide +kernel
theorem dX9_walkerSinks_18 : decode cX9_walkerSinks 18 = .ok (.isub, 1) := by decide +kernel
theorem dX9_walkerSinks_19 : decode cX9_walkerSinks 19 = .ok (.ireturn, 1) := by decide +kernel
theorem dX9_shrewSinks_0 : decode cX9_shrewSinks 0 = .ok (.aload_n 0, 1) := by decide +kernel
theorem dX9_shrewSinks_1 : decode cX9_shrewSinks 1 = .ok (.bipush 20, 2) := by decide +kernel
theorem dX9_shrewSinks_3 : decode cX9_shrewSinks 3 = .ok (.invokevirtual 413, 3) := by decide +kernel
theorem dX9_shrewSinks_6 : decode cX9_shrewSinks 6 = .ok (.aload_n 0, 1) := by decide +kernel
theorem dX9_shrewSinks_7 : decode cX9_shrewSinks 7 = .ok (.iload_n 1, 1) := by decide +kernel
theorem dX9_shrewSinks_8 : decode cX9_shrewSinks 8 = .ok (.iload_n 2, 1) := by decide +kernel
theorem dX9_shrewSinks_9 : decode cX9_shrewSinks 9 = .ok (.invokevirtual 422, 3) := by decide +kernel
theorem dX9_shrewSinks_12 : decode cX9_shrewSinks 12 = .ok (.bipush 6, 2) := by decide +kernel
theorem dX9_shrewSinks_14 : decode cX9_shrewSinks 14 = .ok (.ixor, 1) := by decide +kernel
theorem dX9_shrewSinks_15 : decode cX9_shrewSinks 15 = .ok (.ireturn, 1) := by decide +kernel
theorem dX9_sinksAct_0 : decode cX9_sinksAct 0 = .ok (.aload_n 0, 1) := by decide +kernel
theorem dX9_sinksAct_1 : decode cX9_sinksAct 1 = .ok (.getfield 20, 3) := by decide +kernel
theorem dX9_sinksAct_4 : decode cX9_sinksAct 4 = .ok (.iload_n 1, 1) := by decide +kernel
theorem dX9_sinksAct_5 : decode cX9_sinksAct 5 = .ok (.iaload, 1) := by decide +kernel
theorem dX9_sinksAct_6 : decode cX9_sinksAct 6 = .ok (.lookupswitch 78 #[(1, 34), (4, 41), (6, 56)], 34) := by decide +kernel
theorem dX9_sinksAct_40 : decode cX9_sinksAct 40 = .ok (.aload_n 0, 1) := by decide +kernel
theorem dX9_sinksAct_41 : decode cX9_sinksAct 41 = .ok (.iload_n 1, 1) := by decide +kernel
theorem dX9_sinksAct_42 : decode cX9_sinksAct 42 = .ok (.iload_n 2, 1) := by decide +kernel
theorem dX9_sinksAct_43 : decode cX9_sinksAct 43 = .ok (.invokevirtual 425, 3) := by decide +kernel
theorem dX9_sinksAct_46 : decode cX9_sinksAct 46 = .ok (.ireturn, 1) := by decide +kernel
theorem dX9_sinksAct_47 : decode cX9_sinksAct 47 = .ok (.aload_n 0, 1) := by decide +kernel
theorem dX9_sinksAct_48 : decode cX9_sinksAct 48 = .ok (.bipush 51, 2) := by decide +kernel
theorem dX9_sinksAct_50 : decode cX9_sinksAct 50 = .ok (.invokevirtual 413, 3) := by decide +kernel
theorem dX9_sinksAct_53 : decode cX9_sinksAct 53 = .ok (.aload_n 0, 1) := by decide +kernel
theorem dX9_sinksAct_54 : decode cX9_sinksAct 54 = .ok (.iload_n 1, 1) := by decide +kernel
theorem dX9_sinksAct_55 : decode cX9_sinksAct 55 = .ok (.iload_n 2, 1) := by decide +kernel
theorem dX9_sinksAct_56 : decode cX9_sinksAct 56 = .ok (.iconst 1, 1) := by decide +kernel
theorem dX9_sinksAct_57 : decode cX9_sinksAct 57 = .ok (.iadd, 1) := by decide +kernel
theorem dX9_sinksAct_58 : decode cX9_sinksAct 58 = .ok (.invokevirtual 425, 3) := by decide +kernel
theorem dX9_sinksAct_61 : decode cX9_sinksAct 61 = .ok (.ireturn, 1) := by decide +kernel
theorem dX9_sinksAct_62 : decode cX9_sinksAct 62 = .ok (.aload_n 0, 1) := by decide +kernel
theorem dX9_sinksAct_63 : decode cX9_sinksAct 63 = .ok (.bipush 70, 2) := by decide +kernel
theorem dX9_sinksAct_65 : decode cX9_sinksAct 65 = .ok (.invokevirtual 413, 3) := by decide +kernel
theorem dX9_sinksAct_68 : decode cX9_sinksAct 68 = .ok (.aload_n 0, 1) := by decide +kernel
theorem dX9_sinksAct_69 : decode cX9_sinksAct 69 = .ok (.iload_n 1, 1) := by decide +kernel
theorem dX9_sinksAct_70 : decode cX9_sinksAct 70 = .ok (.iload_n 2, 1) := by decide +kernel
theorem dX9_sinksAct_71 : decode cX9_sinksAct 71 = .ok (.invokevirtual 422, 3) := by decide +kernel
theorem dX9_sinksAct_74 : decode cX9_sinksAct 74 = .ok (.istore_n 3, 1) := by decide +kernel
theorem dX9_sinksAct_75 : decode cX9_sinksAct 75 = .ok (.iload_n 3, 1) := by decide +kernel
theorem dX9_sinksAct_76 : decode cX9_sinksAct 76 = .ok (.aload_n 0, 1) := by decide +kernel
theorem dX9_sinksAct_77 : decode cX9_sinksAct 77 = .ok (.iload_n 1, 1) := by decide +kernel
theorem dX9_sinksAct_78 : decode cX9_sinksAct 78 = .ok (.iconst 2, 1) := by decide +kernel
theorem dX9_sinksAct_79 : decode cX9_sinksAct 79 = .ok (.invokevirtual 416, 3) := by decide +kernel
theorem dX9_sinksAct_82 : decode cX9_sinksAct 82 = .ok (.iadd, 1) := by decide +kernel
theorem dX9_sinksAct_83 : decode cX9_sinksAct 83 = .ok (.ireturn, 1) := by decide +kernel
theorem dX9_sinksAct_84 : decode cX9_sinksAct 84 = .ok (.aload_n 0, 1) := by decide +kernel
theorem dX9_sinksAct_85 : decode cX9_sinksAct 85 = .ok (.iload_n 1, 1) := by decide +kernel
theorem dX9_sinksAct_86 : decode cX9_sinksAct 86 = .ok (.iload_n 2, 1) := by decide +kernel
theorem dX9_sinksAct_87 : decode cX9_sinksAct 87 = .ok (.invokevirtual 422, 3) := by decide +kernel
theorem dX9_sinksAct_90 : decode cX9_sinksAct 90 = .ok (.ireturn, 1) := by decide +kernel
theorem dX9_walkerTells_0 : decode cX9_walkerTells 0 = .ok (.aload_n 0, 1) := by decide +kernel
theorem dX9_walkerTells_1 : decode cX9_walkerTells 1 = .ok (.bipush 12, 2) := by decide +kernel
theorem dX9_walkerTells_3 : decode cX9_walkerTells 3 = .ok (.invokevirtual 413, 3) := by decide +kernel
theorem dX9_walkerTells_6 : decode cX9_walkerTells 6 = .ok (.aload_n 0, 1) := by decide +kernel
theorem dX9_walkerTells_7 : decode cX9_walkerTells 7 = .ok (.iload_n 1, 1) := by decide +kernel
theorem dX9_walkerTells_8 : decode cX9_walkerTells 8 = .ok (.iload_n 2, 1) := by decide +kernel
theorem dX9_walkerTells_9 : decode cX9_walkerTells 9 = .ok (.invokevirtual 428, 3) := by decide +kernel
theorem dX9_walkerTells_12 : decode cX9_walkerTells 12 = .ok (.iconst 2, 1) := by decide +kernel
theorem dX9_walkerTells_13 : decode cX9_walkerTells 13 = .ok (.imul, 1) := by decide +kernel
theorem dX9_walkerTells_14 : decode cX9_walkerTells 14 = .ok (.ireturn, 1) := by decide +kernel
theorem dX9_tellsAct_0 : decode cX9_tellsAct 0 = .ok (.aload_n 0, 1) := by decide +kernel
theorem dX9_tellsAct_1 : decode cX9_tellsAct 1 = .ok (.getfield 20, 3) := by decide +kernel
theorem dX9_tellsAct_4 : decode cX9_tellsAct 4 = .ok (.iload_n 1, 1) := by decide +kernel
theorem dX9_tellsAct_5 : decode cX9_tellsAct 5 = .ok (.iaload, 1) := by decide +kernel
theorem dX9_tellsAct_6 : decode cX9_tellsAct 6 = .ok (.tableswitch 67 3 6 #[30, 67, 52, 30], 30) := by decide +kernel
theorem dX9_tellsAct_36 : decode cX9_tellsAct 36 = .ok (.aload_n 0, 1) := by decide +kernel
theorem dX9_tellsAct_37 : decode cX9_tellsAct 37 = .ok (.bipush 40, 2) := by decide +kernel
theorem dX9_tellsAct_39 : decode cX9_tellsAct 39 = .ok (.invokevirtual 413, 3) := by decide +kernel
theorem dX9_tellsAct_42 : decode cX9_tellsAct 42 = .ok (.aload_n 0, 1) := by decide +kernel
theorem dX9_tellsAct_43 : decode cX9_tellsAct 43 = .ok (.iload_n 1, 1) := by decide +kernel
theorem dX9_tellsAct_44 : decode cX9_tellsAct 44 = .ok (.iload_n 2, 1) := by decide +kernel
theorem dX9_tellsAct_45 : decode cX9_tellsAct 45 = .ok (.invokevirtual 431, 3) := by decide +kernel
theorem dX9_tellsAct_48 : decode cX9_tellsAct 48 = .ok (.istore_n 3, 1) := by decide +kernel
theorem dX9_tellsAct_49 : decode cX9_tellsAct 49 = .ok (.iload_n 3, 1) := by decide +kernel
theorem dX9_tellsAct_50 : decode cX9_tellsAct 50 = .ok (.aload_n 0, 1) := by decide +kernel
theorem dX9_tellsAct_51 : decode cX9_tellsAct 51 = .ok (.iload_n 1, 1) := by decide +kernel
theorem dX9_tellsAct_52 : decode cX9_tellsAct 52 = .ok (.iconst 1, 1) := by decide +kernel
theorem dX9_tellsAct_53 : decode cX9_tellsAct 53 = .ok (.invokevirtual 428, 3) := by decide +kernel
theorem dX9_tellsAct_56 : decode cX9_tellsAct 56 = .ok (.iadd, 1) := by decide +kernel
theorem dX9_tellsAct_57 : decode cX9_tellsAct 57 = .ok (.ireturn, 1) := by decide +kernel
theorem dX9_tellsAct_58 : decode cX9_tellsAct 58 = .ok (.aload_n 0, 1) := by decide +kernel
theorem dX9_tellsAct_59 : decode cX9_tellsAct 59 = .ok (.bipush 60, 2) := by decide +kernel
theorem dX9_tellsAct_61 : decode cX9_tellsAct 61 = .ok (.invokevirtual 413, 3) := by decide +kernel
theorem dX9_tellsAct_64 : decode cX9_tellsAct 64 = .ok (.aload_n 0, 1) := by decide +kernel
theorem dX9_tellsAct_65 : decode cX9_tellsAct 65 = .ok (.iload_n 1, 1) := by decide +kernel
theorem dX9_tellsAct_66 : decode cX9_tellsAct 66 = .ok (.iload_n 2, 1) := by decide +kernel
theorem dX9_tellsAct_67 : decode cX9_tellsAct 67 = .ok (.iload_n 1, 1) := by decide +kernel
theorem dX9_tellsAct_68 : decode cX9_tellsAct 68 = .ok (.isub, 1) := by decide +kernel
theorem dX9_tellsAct_69 : decode cX9_tellsAct 69 = .ok (.invokevirtual 431, 3) := by decide +kernel
theorem dX9_tellsAct_72 : decode cX9_tellsAct 72 = .ok (.ireturn, 1) := by decide +kernel
theorem dX9_tellsAct_73 : decode cX9_tellsAct 73 = .ok (.aload_n 0, 1) := by decide +kernel
theorem dX9_tellsAct_74 : decode cX9_tellsAct 74 = .ok (.iload_n 1, 1) := by decide +kernel
theorem dX9_tellsAct_75 : decode cX9_tellsAct 75 = .ok (.iload_n 2, 1) := by decide +kernel
theorem dX9_tellsAct_76 : decode cX9_tellsAct 76 = .ok (.invokevirtual 431, 3) := by decide +kernel
theorem dX9_tellsAct_79 : decode cX9_tellsAct 79 = .ok (.ireturn, 1) := by decide +kernel
theorem dX9_act_0 : decode cX9_act 0 = .ok (.aload_n 0, 1) := by decide +kernel
theorem dX9_act_1 : decode cX9_act 1 = .ok (.iconst 0, 1) := by decide +kernel
theorem dX9_act_2 : decode cX9_act 2 = .ok (.putfield 205, 3) := by decide +kernel
theorem dX9_act_5 : decode cX9_act 5 = .ok (.aload_n 0, 1) := by decide +kernel
theorem dX9_act_6 : decode cX9_act 6 = .ok (.iload_n 1, 1) := by decide +kernel
theorem dX9_act_7 : decode cX9_act 7 = .ok (.invokevirtual 235, 3) := by decide +kernel
theorem dX9_act_10 : decode cX9_act 10 = .ok (.ifCond .eq 13, 3) := by decide +kernel
theorem dX9_act_13 : decode cX9_act 13 = .ok (.aload_n 0, 1) := by decide +kernel
theorem dX9_act_14 : decode cX9_act 14 = .ok (.iload_n 2, 1) := by decide +kernel
theorem dX9_act_15 : decode cX9_act 15 = .ok (.iconst 0, 1) := by decide +kernel
theorem dX9_act_16 : decode cX9_act 16 = .ok (.iconst 2, 1) := by decide +kernel
theorem dX9_act_17 : decode cX9_act 17 = .ok (.invokevirtual 224, 3) := by decide +kernel
theorem dX9_act_20 : decode cX9_act 20 = .ok (.ifCond .ne 5, 3) := by decide +kernel
theorem dX9_act_23 : decode cX9_act 23 = .ok (.iconst 0, 1) := by decide +kernel
theorem dX9_act_24 : decode cX9_act 24 = .ok (.ireturn, 1) := by decide +kernel
theorem dX9_act_25 : decode cX9_act 25 = .ok (.iload_n 2, 1) := by decide +kernel
theorem dX9_act_26 : decode cX9_act 26 = .ok (.ifCond .ne 12, 3) := by decide +kernel
theorem dX9_act_29 : decode cX9_act 29 = .ok (.aload_n 0, 1) := by decide +kernel
theorem dX9_act_30 : decode cX9_act 30 = .ok (.iload_n 1, 1) := by decide +kernel
theorem dX9_act_31 : decode cX9_act 31 = .ok (.iload_n 3, 1) := by decide +kernel
theorem dX9_act_32 : decode cX9_act 32 = .ok (.invokevirtual 419, 3) := by decide +kernel
theorem dX9_act_35 : decode cX9_act 35 = .ok (.goto 23, 3) := by decide +kernel
theorem dX9_act_38 : decode cX9_act 38 = .ok (.iload_n 2, 1) := by decide +kernel
theorem dX9_act_39 : decode cX9_act 39 = .ok (.iconst 1, 1) := by decide +kernel
theorem dX9_act_40 : decode cX9_act 40 = .ok (.if_icmp .ne 12, 3) := by decide +kernel
theorem dX9_act_43 : decode cX9_act 43 = .ok (.aload_n 0, 1) := by decide +kernel
theorem dX9_act_44 : decode cX9_act 44 = .ok (.iload_n 1, 1) := by decide +kernel
theorem dX9_act_45 : decode cX9_act 45 = .ok (.iload_n 3, 1) := by decide +kernel
theorem dX9_act_46 : decode cX9_act 46 = .ok (.invokevirtual 428, 3) := by decide +kernel
theorem dX9_act_49 : decode cX9_act 49 = .ok (.goto 9, 3) := by decide +kernel
theorem dX9_act_52 : decode cX9_act 52 = .ok (.aload_n 0, 1) := by decide +kernel
theorem dX9_act_53 : decode cX9_act 53 = .ok (.iload_n 1, 1) := by decide +kernel
theorem dX9_act_54 : decode cX9_act 54 = .ok (.iload_n 3, 1) := by decide +kernel
theorem dX9_act_55 : decode cX9_act 55 = .ok (.invokevirtual 434, 3) := by decide +kernel
theorem dX9_act_58 : decode cX9_act 58 = .ok (.ireturn, 1) := by decide +kernel
theorem dX9_trace_0 : decode cX9_trace 0 = .ok (.aload_n 0, 1) := by decide +kernel
theorem dX9_trace_1 : decode cX9_trace 1 = .ok (.iload_n 1, 1) := by decide +kernel
theorem dX9_trace_2 : decode cX9_trace 2 = .ok (.iconst 0, 1) := by decide +kernel
theorem dX9_trace_3 : decode cX9_trace 3 = .ok (.bipush 19, 2) := by decide +kernel
theorem dX9_trace_5 : decode cX9_trace 5 = .ok (.invokevirtual 224, 3) := by decide +kernel
theorem dX9_trace_8 : decode cX9_trace 8 = .ok (.ifCond .eq 20, 3) := by decide +kernel
theorem dX9_trace_11 : decode cX9_trace 11 = .ok (.iload_n 1, 1) := by decide +kernel
theorem dX9_trace_12 : decode cX9_trace 12 = .ok (.aload_n 0, 1) := by decide +kernel
theorem dX9_trace_13 : decode cX9_trace 13 = .ok (.getfield 205, 3) := by decide +kernel
theorem dX9_trace_16 : decode cX9_trace 16 = .ok (.if_icmp .ge 12, 3) := by decide +kernel
theorem dX9_trace_19 : decode cX9_trace 19 = .ok (.aload_n 0, 1) := by decide +kernel
theorem dX9_trace_20 : decode cX9_trace 20 = .ok (.getfield 208, 3) := by decide +kernel
theorem dX9_trace_23 : decode cX9_trace 23 = .ok (.iload_n 1, 1) := by decide +kernel
theorem dX9_trace_24 : decode cX9_trace 24 = .ok (.iaload, 1) := by decide +kernel
theorem dX9_trace_25 : decode cX9_trace 25 = .ok (.goto 4, 3) := by decide +kernel
theorem dX9_trace_28 : decode cX9_trace 28 = .ok (.iconst (-1), 1) := by decide +kernel
theorem dX9_trace_29 : decode cX9_trace 29 = .ok (.ireturn, 1) := by decide +kernel
theorem dX9_taken_0 : decode cX9_taken 0 = .ok (.aload_n 0, 1) := by decide +kernel
theorem dX9_taken_1 : decode cX9_taken 1 = .ok (.iload_n 2, 1) := by decide +kernel
theorem dX9_taken_2 : decode cX9_taken 2 = .ok (.iconst 0, 1) := by decide +kernel
theorem dX9_taken_3 : decode cX9_taken 3 = .ok (.bipush 6, 2) := by decide +kernel
theorem dX9_taken_5 : decode cX9_taken 5 = .ok (.invokevirtual 224, 3) := by decide +kernel
theorem dX9_taken_8 : decode cX9_taken 8 = .ok (.ifCond .ne 6, 3) := by decide +kernel
theorem dX9_taken_11 : decode cX9_taken 11 = .ok (.bipush (-2), 2) := by decide +kernel
theorem dX9_taken_13 : decode cX9_taken 13 = .ok (.ireturn, 1) := by decide +kernel
theorem dX9_taken_14 : decode cX9_taken 14 = .ok (.aload_n 0, 1) := by decide +kernel
theorem dX9_taken_15 : decode cX9_taken 15 = .ok (.iload_n 1, 1) := by decide +kernel
theorem dX9_taken_16 : decode cX9_taken 16 = .ok (.invokevirtual 235, 3) := by decide +kernel
theorem dX9_taken_19 : decode cX9_taken 19 = .ok (.ifCond .ne 6, 3) := by decide +kernel
theorem dX9_taken_22 : decode cX9_taken 22 = .ok (.bipush (-11), 2) := by decide +kernel
theorem dX9_taken_24 : decode cX9_taken 24 = .ok (.ireturn, 1) := by decide +kernel
theorem dX9_taken_25 : decode cX9_taken 25 = .ok (.aload_n 0, 1) := by decide +kernel
theorem dX9_taken_26 : decode cX9_taken 26 = .ok (.getfield 20, 3) := by decide +kernel
theorem dX9_taken_29 : decode cX9_taken 29 = .ok (.iload_n 1, 1) := by decide +kernel
theorem dX9_taken_30 : decode cX9_taken 30 = .ok (.iaload, 1) := by decide +kernel
theorem dX9_taken_31 : decode cX9_taken 31 = .ok (.istore_n 3, 1) := by decide +kernel
theorem dX9_taken_32 : decode cX9_taken 32 = .ok (.iload_n 2, 1) := by decide +kernel
theorem dX9_taken_33 : decode cX9_taken 33 = .ok (.ifCond .eq 39, 3) := by decide +kernel
theorem dX9_taken_36 : decode cX9_taken 36 = .ok (.iload_n 3, 1) := by decide +kernel
theorem dX9_taken_37 : decode cX9_taken 37 = .ok (.iload_n 2, 1) := by decide +kernel
theorem dX9_taken_38 : decode cX9_taken 38 = .ok (.if_icmp .eq 34, 3) := by decide +kernel
theorem dX9_taken_41 : decode cX9_taken 41 = .ok (.iload_n 2, 1) := by decide +kernel
theorem dX9_taken_42 : decode cX9_taken 42 = .ok (.iconst 1, 1) := by decide +kernel
theorem dX9_taken_43 : decode cX9_taken 43 = .ok (.if_icmp .ne 8, 3) := by decide +kernel
theorem dX9_taken_46 : decode cX9_taken 46 = .ok (.iload_n 3, 1) := by decide +kernel
theorem dX9_taken_47 : decode cX9_taken 47 = .ok (.iconst 4, 1) := by decide +kernel
theorem dX9_taken_48 : decode cX9_taken 48 = .ok (.if_icmp .eq 24, 3) := by decide +kernel
theorem dX9_taken_51 : decode cX9_taken 51 = .ok (.iload_n 2, 1) := by decide +kernel
theorem dX9_taken_52 : decode cX9_taken 52 = .ok (.iconst 2, 1) := by decide +kernel
theorem dX9_taken_53 : decode cX9_taken 53 = .ok (.if_icmp .ne 8, 3) := by decide +kernel
theorem dX9_taken_56 : decode cX9_taken 56 = .ok (.iload_n 3, 1) := by decide +kernel
theorem dX9_taken_57 : decode cX9_taken 57 = .ok (.iconst 5, 1) := by decide +kernel
theorem dX9_taken_58 : decode cX9_taken 58 = .ok (.if_icmp .eq 14, 3) := by decide +kernel
theorem dX9_taken_61 : decode cX9_taken 61 = .ok (.iload_n 2, 1) := by decide +kernel
theorem dX9_taken_62 : decode cX9_taken 62 = .ok (.iconst 3, 1) := by decide +kernel
theorem dX9_taken_63 : decode cX9_taken 63 = .ok (.if_icmp .ne 13, 3) := by decide +kernel
theorem dX9_taken_66 : decode cX9_taken 66 = .ok (.iload_n 3, 1) := by decide +kernel
theorem dX9_taken_67 : decode cX9_taken 67 = .ok (.bipush 6, 2) := by decide +kernel
theorem dX9_taken_69 : decode cX9_taken 69 = .ok (.if_icmp .ne 7, 3) := by decide +kernel
theorem dX9_taken_72 : decode cX9_taken 72 = .ok (.iload_n 3, 1) := by decide +kernel
theorem dX9_taken_73 : decode cX9_taken 73 = .ok (.goto 5, 3) := by decide +kernel
theorem dX9_taken_76 : decode cX9_taken 76 = .ok (.bipush (-12), 2) := by decide +kernel
theorem dX9_taken_78 : decode cX9_taken 78 = .ok (.ireturn, 1) := by decide +kernel
theorem dX9_count_0 : decode cX9_count 0 = .ok (.iload_n 1, 1) := by decide +kernel
theorem dX9_count_1 : decode cX9_count 1 = .ok (.tableswitch 78 0 6 #[43, 48, 53, 58, 63, 68, 73], 43) := by decide +kernel
theorem dX9_count_44 : decode cX9_count 44 = .ok (.aload_n 0, 1) := by decide +kernel
theorem dX9_count_45 : decode cX9_count 45 = .ok (.getfield 7, 3) := by decide +kernel
theorem dX9_count_48 : decode cX9_count 48 = .ok (.ireturn, 1) := by decide +kernel
theorem dX9_count_49 : decode cX9_count 49 = .ok (.aload_n 0, 1) := by decide +kernel
theorem dX9_count_50 : decode cX9_count 50 = .ok (.getfield 32, 3) := by decide +kernel
theorem dX9_count_53 : decode cX9_count 53 = .ok (.ireturn, 1) := by decide +kernel
theorem dX9_count_54 : decode cX9_count 54 = .ok (.aload_n 0, 1) := by decide +kernel
theorem dX9_count_55 : decode cX9_count 55 = .ok (.getfield 111, 3) := by decide +kernel
theorem dX9_count_58 : decode cX9_count 58 = .ok (.ireturn, 1) := by decide +kernel
theorem dX9_count_59 : decode cX9_count 59 = .ok (.aload_n 0, 1) := by decide +kernel
theorem dX9_count_60 : decode cX9_count 60 = .ok (.getfield 126, 3) := by decide +kernel
theorem dX9_count_63 : decode cX9_count 63 = .ok (.ireturn, 1) := by decide +kernel
theorem dX9_count_64 : decode cX9_count 64 = .ok (.aload_n 0, 1) := by decide +kernel
theorem dX9_count_65 : decode cX9_count 65 = .ok (.getfield 129, 3) := by decide +kernel
theorem dX9_count_68 : decode cX9_count 68 = .ok (.ireturn, 1) := by decide +kernel
theorem dX9_count_69 : decode cX9_count 69 = .ok (.aload_n 0, 1) := by decide +kernel
theorem dX9_count_70 : decode cX9_count 70 = .ok (.getfield 38, 3) := by decide +kernel
theorem dX9_count_73 : decode cX9_count 73 = .ok (.ireturn, 1) := by decide +kernel
theorem dX9_count_74 : decode cX9_count 74 = .ok (.aload_n 0, 1) := by decide +kernel
theorem dX9_count_75 : decode cX9_count 75 = .ok (.getfield 205, 3) := by decide +kernel
theorem dX9_count_78 : decode cX9_count 78 = .ok (.ireturn, 1) := by decide +kernel
theorem dX9_count_79 : decode cX9_count 79 = .ok (.bipush (-2), 2) := by decide +kernel
theorem dX9_count_81 : decode cX9_count 81 = .ok (.ireturn, 1) := by decide +kernel
theorem dX9_isTape_0 : decode cX9_isTape 0 = .ok (.aload_n 0, 1) := by decide +kernel
theorem dX9_isTape_1 : decode cX9_isTape 1 = .ok (.iload_n 1, 1) := by decide +kernel
theorem dX9_isTape_2 : decode cX9_isTape 2 = .ok (.iconst 0, 1) := by decide +kernel
theorem dX9_isTape_3 : decode cX9_isTape 3 = .ok (.iconst 5, 1) := by decide +kernel
theorem dX9_isTape_4 : decode cX9_isTape 4 = .ok (.invokevirtual 224, 3) := by decide +kernel
theorem dX9_isTape_7 : decode cX9_isTape 7 = .ok (.ireturn, 1) := by decide +kernel
theorem dX9_tape_0 : decode cX9_tape 0 = .ok (.aload_n 0, 1) := by decide +kernel
theorem dX9_tape_1 : decode cX9_tape 1 = .ok (.iload_n 1, 1) := by decide +kernel
theorem dX9_tape_2 : decode cX9_tape 2 = .ok (.invokevirtual 410, 3) := by decide +kernel
theorem dX9_tape_5 : decode cX9_tape 5 = .ok (.ifCond .ne 5, 3) := by decide +kernel
theorem dX9_tape_8 : decode cX9_tape 8 = .ok (.iconst (-1), 1) := by decide +kernel
theorem dX9_tape_9 : decode cX9_tape 9 = .ok (.ireturn, 1) := by decide +kernel
theorem dX9_tape_10 : decode cX9_tape 10 = .ok (.aload_n 0, 1) := by decide +kernel
theorem dX9_tape_11 : decode cX9_tape 11 = .ok (.iload_n 2, 1) := by decide +kernel
theorem dX9_tape_12 : decode cX9_tape 12 = .ok (.iconst (-1), 1) := by decide +kernel
theorem dX9_tape_13 : decode cX9_tape 13 = .ok (.iconst 4, 1) := by decide +kernel
theorem dX9_tape_14 : decode cX9_tape 14 = .ok (.invokevirtual 224, 3) := by decide +kernel
theorem dX9_tape_17 : decode cX9_tape 17 = .ok (.ifCond .eq 13, 3) := by decide +kernel
theorem dX9_tape_20 : decode cX9_tape 20 = .ok (.iload_n 2, 1) := by decide +kernel
theorem dX9_tape_21 : decode cX9_tape 21 = .ok (.ifCond .lt 12, 3) := by decide +kernel
theorem dX9_tape_24 : decode cX9_tape 24 = .ok (.iload_n 3, 1) := by decide +kernel
theorem dX9_tape_25 : decode cX9_tape 25 = .ok (.bipush 60, 2) := by decide +kernel
theorem dX9_tape_27 : decode cX9_tape 27 = .ok (.if_icmp .le 6, 3) := by decide +kernel
theorem dX9_tape_30 : decode cX9_tape 30 = .ok (.bipush (-2), 2) := by decide +kernel
theorem dX9_tape_32 : decode cX9_tape 32 = .ok (.ireturn, 1) := by decide +kernel
theorem dX9_tape_33 : decode cX9_tape 33 = .ok (.iload_n 2, 1) := by decide +kernel
theorem dX9_tape_34 : decode cX9_tape 34 = .ok (.ifCond .lt 10, 3) := by decide +kernel
theorem dX9_tape_37 : decode cX9_tape 37 = .ok (.iload_n 3, 1) := by decide +kernel
theorem dX9_tape_38 : decode cX9_tape 38 = .ok (.ifCond .ge 6, 3) := by decide +kernel
theorem dX9_tape_41 : decode cX9_tape 41 = .ok (.bipush (-14), 2) := by decide +kernel
theorem dX9_tape_43 : decode cX9_tape 43 = .ok (.ireturn, 1) := by decide +kernel
theorem dX9_tape_44 : decode cX9_tape 44 = .ok (.aload_n 0, 1) := by decide +kernel
theorem dX9_tape_45 : decode cX9_tape 45 = .ok (.getfield 211, 3) := by decide +kernel
theorem dX9_tape_48 : decode cX9_tape 48 = .ok (.iload_n 1, 1) := by decide +kernel
theorem dX9_tape_49 : decode cX9_tape 49 = .ok (.iload_n 2, 1) := by decide +kernel
theorem dX9_tape_50 : decode cX9_tape 50 = .ok (.iastore, 1) := by decide +kernel
theorem dX9_tape_51 : decode cX9_tape 51 = .ok (.aload_n 0, 1) := by decide +kernel
theorem dX9_tape_52 : decode cX9_tape 52 = .ok (.getfield 214, 3) := by decide +kernel
theorem dX9_tape_55 : decode cX9_tape 55 = .ok (.iload_n 1, 1) := by decide +kernel
theorem dX9_tape_56 : decode cX9_tape 56 = .ok (.iload_n 2, 1) := by decide +kernel
theorem dX9_tape_57 : decode cX9_tape 57 = .ok (.ifCond .ge 7, 3) := by decide +kernel
theorem dX9_tape_60 : decode cX9_tape 60 = .ok (.iconst 0, 1) := by decide +kernel
theorem dX9_tape_61 : decode cX9_tape 61 = .ok (.goto 4, 3) := by decide +kernel
theorem dX9_tape_64 : decode cX9_tape 64 = .ok (.iload_n 3, 1) := by decide +kernel
theorem dX9_tape_65 : decode cX9_tape 65 = .ok (.iastore, 1) := by decide +kernel
theorem dX9_tape_66 : decode cX9_tape 66 = .ok (.iconst 0, 1) := by decide +kernel
theorem dX9_tape_67 : decode cX9_tape 67 = .ok (.istore 4, 2) := by decide +kernel
theorem dX9_tape_69 : decode cX9_tape 69 = .ok (.iload 4, 2) := by decide +kernel
theorem dX9_tape_71 : decode cX9_tape 71 = .ok (.bipush 60, 2) := by decide +kernel
theorem dX9_tape_73 : decode cX9_tape 73 = .ok (.if_icmp .ge 22, 3) := by decide +kernel
theorem dX9_tape_76 : decode cX9_tape 76 = .ok (.aload_n 0, 1) := by decide +kernel
theorem dX9_tape_77 : decode cX9_tape 77 = .ok (.getfield 217, 3) := by decide +kernel
theorem dX9_tape_80 : decode cX9_tape 80 = .ok (.bipush 60, 2) := by decide +kernel
theorem dX9_tape_82 : decode cX9_tape 82 = .ok (.iload_n 1, 1) := by decide +kernel
theorem dX9_tape_83 : decode cX9_tape 83 = .ok (.imul, 1) := by decide +kernel
theorem dX9_tape_84 : decode cX9_tape 84 = .ok (.iload 4, 2) := by decide +kernel
theorem dX9_tape_86 : decode cX9_tape 86 = .ok (.iadd, 1) := by decide +kernel
theorem dX9_tape_87 : decode cX9_tape 87 = .ok (.lconst 0, 1) := by decide +kernel
theorem dX9_tape_88 : decode cX9_tape 88 = .ok (.lastore, 1) := by decide +kernel
theorem dX9_tape_89 : decode cX9_tape 89 = .ok (.iinc 4 1, 3) := by decide +kernel
theorem dX9_tape_92 : decode cX9_tape 92 = .ok (.goto (-23), 3) := by decide +kernel
theorem dX9_tape_95 : decode cX9_tape 95 = .ok (.iconst 1, 1) := by decide +kernel
theorem dX9_tape_96 : decode cX9_tape 96 = .ok (.ireturn, 1) := by decide +kernel
theorem dX9_narrow_0 : decode cX9_narrow 0 = .ok (.iload_n 1, 1) := by decide +kernel
theorem dX9_narrow_1 : decode cX9_narrow 1 = .ok (.ifCond .ne 10, 3) := by decide +kernel
theorem dX9_narrow_4 : decode cX9_narrow 4 = .ok (.lload_n 2, 1) := by decide +kernel
theorem dX9_narrow_5 : decode cX9_narrow 5 = .ok (.l2i, 1) := by decide +kernel
theorem dX9_narrow_6 : decode cX9_narrow 6 = .ok (.i2b, 1) := by decide +kernel
theorem dX9_narrow_7 : decode cX9_narrow 7 = .ok (.i2l, 1) := by decide +kernel
theorem dX9_narrow_8 : decode cX9_narrow 8 = .ok (.goto 46, 3) := by decide +kernel
theorem dX9_narrow_11 : decode cX9_narrow 11 = .ok (.iload_n 1, 1) := by decide +kernel
theorem dX9_narrow_12 : decode cX9_narrow 12 = .ok (.iconst 1, 1) := by decide +kernel
theorem dX9_narrow_13 : decode cX9_narrow 13 = .ok (.if_icmp .ne 10, 3) := by decide +kernel
theorem dX9_narrow_16 : decode cX9_narrow 16 = .ok (.lload_n 2, 1) := by decide +kernel
theorem dX9_narrow_17 : decode cX9_narrow 17 = .ok (.l2i, 1) := by decide +kernel
theorem dX9_narrow_18 : decode cX9_narrow 18 = .ok (.i2s, 1) := by decide +kernel
theorem dX9_narrow_19 : decode cX9_narrow 19 = .ok (.i2l, 1) := by decide +kernel
theorem dX9_narrow_20 : decode cX9_narrow 20 = .ok (.goto 34, 3) := by decide +kernel
theorem dX9_narrow_23 : decode cX9_narrow 23 = .ok (.iload_n 1, 1) := by decide +kernel
theorem dX9_narrow_24 : decode cX9_narrow 24 = .ok (.iconst 2, 1) := by decide +kernel
theorem dX9_narrow_25 : decode cX9_narrow 25 = .ok (.if_icmp .ne 9, 3) := by decide +kernel
theorem dX9_narrow_28 : decode cX9_narrow 28 = .ok (.lload_n 2, 1) := by decide +kernel
theorem dX9_narrow_29 : decode cX9_narrow 29 = .ok (.l2i, 1) := by decide +kernel
theorem dX9_narrow_30 : decode cX9_narrow 30 = .ok (.i2l, 1) := by decide +kernel
theorem dX9_narrow_31 : decode cX9_narrow 31 = .ok (.goto 23, 3) := by decide +kernel
theorem dX9_narrow_34 : decode cX9_narrow 34 = .ok (.iload_n 1, 1) := by decide +kernel
theorem dX9_narrow_35 : decode cX9_narrow 35 = .ok (.iconst 4, 1) := by decide +kernel
theorem dX9_narrow_36 : decode cX9_narrow 36 = .ok (.if_icmp .ne 17, 3) := by decide +kernel
theorem dX9_narrow_39 : decode cX9_narrow 39 = .ok (.lload_n 2, 1) := by decide +kernel
theorem dX9_narrow_40 : decode cX9_narrow 40 = .ok (.lconst 0, 1) := by decide +kernel
theorem dX9_narrow_41 : decode cX9_narrow 41 = .ok (.lcmp, 1) := by decide +kernel
theorem dX9_narrow_42 : decode cX9_narrow 42 = .ok (.ifCond .eq 7, 3) := by decide +kernel
theorem dX9_narrow_45 : decode cX9_narrow 45 = .ok (.lconst 1, 1) := by decide +kernel
theorem dX9_narrow_46 : decode cX9_narrow 46 = .ok (.goto 8, 3) := by decide +kernel
theorem dX9_narrow_49 : decode cX9_narrow 49 = .ok (.lconst 0, 1) := by decide +kernel
theorem dX9_narrow_50 : decode cX9_narrow 50 = .ok (.goto 4, 3) := by decide +kernel
theorem dX9_narrow_53 : decode cX9_narrow 53 = .ok (.lload_n 2, 1) := by decide +kernel
theorem dX9_narrow_54 : decode cX9_narrow 54 = .ok (.lreturn, 1) := by decide +kernel
theorem dX9_item_0 : decode cX9_item 0 = .ok (.aload_n 0, 1) := by decide +kernel
theorem dX9_item_1 : decode cX9_item 1 = .ok (.iload_n 1, 1) := by decide +kernel
theorem dX9_item_2 : decode cX9_item 2 = .ok (.invokevirtual 410, 3) := by decide +kernel
theorem dX9_item_5 : decode cX9_item 5 = .ok (.ifCond .ne 5, 3) := by decide +kernel
theorem dX9_item_8 : decode cX9_item 8 = .ok (.iconst (-1), 1) := by decide +kernel
theorem dX9_item_9 : decode cX9_item 9 = .ok (.ireturn, 1) := by decide +kernel
theorem dX9_item_10 : decode cX9_item 10 = .ok (.aload_n 0, 1) := by decide +kernel
theorem dX9_item_11 : decode cX9_item 11 = .ok (.getfield 211, 3) := by decide +kernel
theorem dX9_item_14 : decode cX9_item 14 = .ok (.iload_n 1, 1) := by decide +kernel
theorem dX9_item_15 : decode cX9_item 15 = .ok (.iaload, 1) := by decide +kernel
theorem dX9_item_16 : decode cX9_item 16 = .ok (.ifCond .ge 6, 3) := by decide +kernel
theorem dX9_item_19 : decode cX9_item 19 = .ok (.bipush (-11), 2) := by decide +kernel
theorem dX9_item_21 : decode cX9_item 21 = .ok (.ireturn, 1) := by decide +kernel
theorem dX9_item_22 : decode cX9_item 22 = .ok (.aload_n 0, 1) := by decide +kernel
theorem dX9_item_23 : decode cX9_item 23 = .ok (.iload_n 2, 1) := by decide +kernel
theorem dX9_item_24 : decode cX9_item 24 = .ok (.iconst 0, 1) := by decide +kernel
theorem dX9_item_25 : decode cX9_item 25 = .ok (.aload_n 0, 1) := by decide +kernel
theorem dX9_item_26 : decode cX9_item 26 = .ok (.getfield 214, 3) := by decide +kernel
theorem dX9_item_29 : decode cX9_item 29 = .ok (.iload_n 1, 1) := by decide +kernel
theorem dX9_item_30 : decode cX9_item 30 = .ok (.iaload, 1) := by decide +kernel
theorem dX9_item_31 : decode cX9_item 31 = .ok (.iconst 1, 1) := by decide +kernel
theorem dX9_item_32 : decode cX9_item 32 = .ok (.isub, 1) := by decide +kernel
theorem dX9_item_33 : decode cX9_item 33 = .ok (.invokevirtual 224, 3) := by decide +kernel
theorem dX9_item_36 : decode cX9_item 36 = .ok (.ifCond .ne 6, 3) := by decide +kernel
theorem dX9_item_39 : decode cX9_item 39 = .ok (.bipush (-13), 2) := by decide +kernel
theorem dX9_item_41 : decode cX9_item 41 = .ok (.ireturn, 1) := by decide +kernel
theorem dX9_item_42 : decode cX9_item 42 = .ok (.aload_n 0, 1) := by decide +kernel
theorem dX9_item_43 : decode cX9_item 43 = .ok (.getfield 217, 3) := by decide +kernel
theorem dX9_item_46 : decode cX9_item 46 = .ok (.bipush 60, 2) := by decide +kernel
theorem dX9_item_48 : decode cX9_item 48 = .ok (.iload_n 1, 1) := by decide +kernel
theorem dX9_item_49 : decode cX9_item 49 = .ok (.imul, 1) := by decide +kernel
theorem dX9_item_50 : decode cX9_item 50 = .ok (.iload_n 2, 1) := by decide +kernel
theorem dX9_item_51 : decode cX9_item 51 = .ok (.iadd, 1) := by decide +kernel
theorem dX9_item_52 : decode cX9_item 52 = .ok (.aload_n 0, 1) := by decide +kernel
theorem dX9_item_53 : decode cX9_item 53 = .ok (.aload_n 0, 1) := by decide +kernel
theorem dX9_item_54 : decode cX9_item 54 = .ok (.getfield 211, 3) := by decide +kernel
theorem dX9_item_57 : decode cX9_item 57 = .ok (.iload_n 1, 1) := by decide +kernel
theorem dX9_item_58 : decode cX9_item 58 = .ok (.iaload, 1) := by decide +kernel
theorem dX9_item_59 : decode cX9_item 59 = .ok (.lload_n 3, 1) := by decide +kernel
theorem dX9_item_60 : decode cX9_item 60 = .ok (.invokevirtual 437, 3) := by decide +kernel
theorem dX9_item_63 : decode cX9_item 63 = .ok (.lastore, 1) := by decide +kernel
theorem dX9_item_64 : decode cX9_item 64 = .ok (.iconst 1, 1) := by decide +kernel
theorem dX9_item_65 : decode cX9_item 65 = .ok (.ireturn, 1) := by decide +kernel
theorem dX9_read_0 : decode cX9_read 0 = .ok (.aload_n 0, 1) := by decide +kernel
theorem dX9_read_1 : decode cX9_read 1 = .ok (.iload_n 1, 1) := by decide +kernel
theorem dX9_read_2 : decode cX9_read 2 = .ok (.invokevirtual 410, 3) := by decide +kernel
theorem dX9_read_5 : decode cX9_read 5 = .ok (.ifCond .eq 29, 3) := by decide +kernel
theorem dX9_read_8 : decode cX9_read 8 = .ok (.aload_n 0, 1) := by decide +kernel
theorem dX9_read_9 : decode cX9_read 9 = .ok (.getfield 211, 3) := by decide +kernel
theorem dX9_read_12 : decode cX9_read 12 = .ok (.iload_n 1, 1) := by decide +kernel
theorem dX9_read_13 : decode cX9_read 13 = .ok (.iaload, 1) := by decide +kernel
theorem dX9_read_14 : decode cX9_read 14 = .ok (.ifCond .lt 20, 3) := by decide +kernel
theorem dX9_read_17 : decode cX9_read 17 = .ok (.aload_n 0, 1) := by decide +kernel
theorem dX9_read_18 : decode cX9_read 18 = .ok (.iload_n 2, 1) := by decide +kernel
theorem dX9_read_19 : decode cX9_read 19 = .ok (.iconst 0, 1) := by decide +kernel
theorem dX9_read_20 : decode cX9_read 20 = .ok (.aload_n 0, 1) := by decide +kernel
theorem dX9_read_21 : decode cX9_read 21 = .ok (.getfield 214, 3) := by decide +kernel
theorem dX9_read_24 : decode cX9_read 24 = .ok (.iload_n 1, 1) := by decide +kernel
theorem dX9_read_25 : decode cX9_read 25 = .ok (.iaload, 1) := by decide +kernel
theorem dX9_read_26 : decode cX9_read 26 = .ok (.iconst 1, 1) := by decide +kernel
theorem dX9_read_27 : decode cX9_read 27 = .ok (.isub, 1) := by decide +kernel
theorem dX9_read_28 : decode cX9_read 28 = .ok (.invokevirtual 224, 3) := by decide +kernel
theorem dX9_read_31 : decode cX9_read 31 = .ok (.ifCond .ne 9, 3) := by decide +kernel
theorem dX9_read_34 : decode cX9_read 34 = .ok (.ldc2_w 401, 3) := by decide +kernel
theorem dX9_read_37 : decode cX9_read 37 = .ok (.goto 14, 3) := by decide +kernel
theorem dX9_read_40 : decode cX9_read 40 = .ok (.aload_n 0, 1) := by decide +kernel
theorem dX9_read_41 : decode cX9_read 41 = .ok (.getfield 217, 3) := by decide +kernel
theorem dX9_read_44 : decode cX9_read 44 = .ok (.bipush 60, 2) := by decide +kernel
theorem dX9_read_46 : decode cX9_read 46 = .ok (.iload_n 1, 1) := by decide +kernel
theorem dX9_read_47 : decode cX9_read 47 = .ok (.imul, 1) := by decide +kernel
theorem dX9_read_48 : decode cX9_read 48 = .ok (.iload_n 2, 1) := by decide +kernel
theorem dX9_read_49 : decode cX9_read 49 = .ok (.iadd, 1) := by decide +kernel
theorem dX9_read_50 : decode cX9_read 50 = .ok (.laload, 1) := by decide +kernel
theorem dX9_read_51 : decode cX9_read 51 = .ok (.lreturn, 1) := by decide +kernel
theorem dX9_shift_0 : decode cX9_shift 0 = .ok (.aload_n 0, 1) := by decide +kernel
theorem dX9_shift_1 : decode cX9_shift 1 = .ok (.iload_n 1, 1) := by decide +kernel
theorem dX9_shift_2 : decode cX9_shift 2 = .ok (.invokevirtual 410, 3) := by decide +kernel
theorem dX9_shift_5 : decode cX9_shift 5 = .ok (.ifCond .eq 11, 3) := by decide +kernel
theorem dX9_shift_8 : decode cX9_shift 8 = .ok (.aload_n 0, 1) := by decide +kernel
theorem dX9_shift_9 : decode cX9_shift 9 = .ok (.iload_n 3, 1) := by decide +kernel
theorem dX9_shift_10 : decode cX9_shift 10 = .ok (.invokevirtual 410, 3) := by decide +kernel
theorem dX9_shift_13 : decode cX9_shift 13 = .ok (.ifCond .ne 5, 3) := by decide +kernel
theorem dX9_shift_16 : decode cX9_shift 16 = .ok (.iconst (-1), 1) := by decide +kernel
theorem dX9_shift_17 : decode cX9_shift 17 = .ok (.ireturn, 1) := by decide +kernel
theorem dX9_shift_18 : decode cX9_shift 18 = .ok (.aload_n 0, 1) := by decide +kernel
theorem dX9_shift_19 : decode cX9_shift 19 = .ok (.getfield 211, 3) := by decide +kernel
theorem dX9_shift_22 : decode cX9_shift 22 = .ok (.iload_n 1, 1) := by decide +kernel
theorem dX9_shift_23 : decode cX9_shift 23 = .ok (.iaload, 1) := by decide +kernel
theorem dX9_shift_24 : decode cX9_shift 24 = .ok (.ifCond .lt 12, 3) := by decide +kernel
theorem dX9_shift_27 : decode cX9_shift 27 = .ok (.aload_n 0, 1) := by decide +kernel
theorem dX9_shift_28 : decode cX9_shift 28 = .ok (.getfield 211, 3) := by decide +kernel
theorem dX9_shift_31 : decode cX9_shift 31 = .ok (.iload_n 3, 1) := by decide +kernel
theorem dX9_shift_32 : decode cX9_shift 32 = .ok (.iaload, 1) := by decide +kernel
theorem dX9_shift_33 : decode cX9_shift 33 = .ok (.ifCond .ge 6, 3) := by decide +kernel
theorem dX9_shift_36 : decode cX9_shift 36 = .ok (.bipush (-11), 2) := by decide +kernel
theorem dX9_shift_38 : decode cX9_shift 38 = .ok (.ireturn, 1) := by decide +kernel
theorem dX9_shift_39 : decode cX9_shift 39 = .ok (.aload_n 0, 1) := by decide +kernel
theorem dX9_shift_40 : decode cX9_shift 40 = .ok (.getfield 211, 3) := by decide +kernel
theorem dX9_shift_43 : decode cX9_shift 43 = .ok (.iload_n 1, 1) := by decide +kernel
theorem dX9_shift_44 : decode cX9_shift 44 = .ok (.iaload, 1) := by decide +kernel
theorem dX9_shift_45 : decode cX9_shift 45 = .ok (.aload_n 0, 1) := by decide +kernel
theorem dX9_shift_46 : decode cX9_shift 46 = .ok (.getfield 211, 3) := by decide +kernel
theorem dX9_shift_49 : decode cX9_shift 49 = .ok (.iload_n 3, 1) := by decide +kernel
theorem dX9_shift_50 : decode cX9_shift 50 = .ok (.iaload, 1) := by decide +kernel
theorem dX9_shift_51 : decode cX9_shift 51 = .ok (.if_icmp .eq 6, 3) := by decide +kernel
theorem dX9_shift_54 : decode cX9_shift 54 = .ok (.bipush (-12), 2) := by decide +kernel
theorem dX9_shift_56 : decode cX9_shift 56 = .ok (.ireturn, 1) := by decide +kernel
theorem dX9_shift_57 : decode cX9_shift 57 = .ok (.iload 5, 2) := by decide +kernel
theorem dX9_shift_59 : decode cX9_shift 59 = .ok (.ifCond .lt 39, 3) := by decide +kernel
theorem dX9_shift_62 : decode cX9_shift 62 = .ok (.iload_n 2, 1) := by decide +kernel
theorem dX9_shift_63 : decode cX9_shift 63 = .ok (.ifCond .lt 35, 3) := by decide +kernel
theorem dX9_shift_66 : decode cX9_shift 66 = .ok (.iload 4, 2) := by decide +kernel
theorem dX9_shift_68 : decode cX9_shift 68 = .ok (.ifCond .lt 30, 3) := by decide +kernel
theorem dX9_shift_71 : decode cX9_shift 71 = .ok (.iload_n 2, 1) := by decide +kernel
theorem dX9_shift_72 : decode cX9_shift 72 = .ok (.aload_n 0, 1) := by decide +kernel
theorem dX9_shift_73 : decode cX9_shift 73 = .ok (.getfield 214, 3) := by decide +kernel
theorem dX9_shift_76 : decode cX9_shift 76 = .ok (.iload_n 1, 1) := by decide +kernel
theorem dX9_shift_77 : decode cX9_shift 77 = .ok (.iaload, 1) := by decide +kernel
theorem dX9_shift_78 : decode cX9_shift 78 = .ok (.iload 5, 2) := by decide +kernel
theorem dX9_shift_80 : decode cX9_shift 80 = .ok (.isub, 1) := by decide +kernel
theorem dX9_shift_81 : decode cX9_shift 81 = .ok (.if_icmp .gt 17, 3) := by decide +kernel
theorem dX9_shift_84 : decode cX9_shift 84 = .ok (.iload 4, 2) := by decide +kernel
theorem dX9_shift_86 : decode cX9_shift 86 = .ok (.aload_n 0, 1) := by decide +kernel
theorem dX9_shift_87 : decode cX9_shift 87 = .ok (.getfield 214, 3) := by decide +kernel
theorem dX9_shift_90 : decode cX9_shift 90 = .ok (.iload_n 3, 1) := by decide +kernel
theorem dX9_shift_91 : decode cX9_shift 91 = .ok (.iaload, 1) := by decide +kernel
theorem dX9_shift_92 : decode cX9_shift 92 = .ok (.iload 5, 2) := by decide +kernel
theorem dX9_shift_94 : decode cX9_shift 94 = .ok (.isub, 1) := by decide +kernel
theorem dX9_shift_95 : decode cX9_shift 95 = .ok (.if_icmp .le 6, 3) := by decide +kernel
theorem dX9_shift_98 : decode cX9_shift 98 = .ok (.bipush (-13), 2) := by decide +kernel
theorem dX9_shift_100 : decode cX9_shift 100 = .ok (.ireturn, 1) := by decide +kernel
theorem dX9_shift_101 : decode cX9_shift 101 = .ok (.iconst 0, 1) := by decide +kernel
theorem dX9_shift_102 : decode cX9_shift 102 = .ok (.istore 6, 2) := by decide +kernel
theorem dX9_shift_104 : decode cX9_shift 104 = .ok (.iload 6, 2) := by decide +kernel
theorem dX9_shift_106 : decode cX9_shift 106 = .ok (.iload 5, 2) := by decide +kernel
theorem dX9_shift_108 : decode cX9_shift 108 = .ok (.if_icmp .ge 30, 3) := by decide +kernel
theorem dX9_shift_111 : decode cX9_shift 111 = .ok (.aload_n 0, 1) := by decide +kernel
theorem dX9_shift_112 : decode cX9_shift 112 = .ok (.getfield 221, 3) := by decide +kernel
theorem dX9_shift_115 : decode cX9_shift 115 = .ok (.iload 6, 2) := by decide +kernel
theorem dX9_shift_117 : decode cX9_shift 117 = .ok (.aload_n 0, 1) := by decide +kernel
theorem dX9_shift_118 : decode cX9_shift 118 = .ok (.getfield 217, 3) := by decide +kernel
theorem dX9_shift_121 : decode cX9_shift 121 = .ok (.bipush 60, 2) := by decide +kernel
theorem dX9_shift_123 : decode cX9_shift 123 = .ok (.iload_n 1, 1) := by decide +kernel
theorem dX9_shift_124 : decode cX9_shift 124 = .ok (.imul, 1) := by decide +kernel
theorem dX9_shift_125 : decode cX9_shift 125 = .ok (.iload_n 2, 1) := by decide +kernel
theorem dX9_shift_126 : decode cX9_shift 126 = .ok (.iadd, 1) := by decide +kernel
theorem dX9_shift_127 : decode cX9_shift 127 = .ok (.iload 6, 2) := by decide +kernel
theorem dX9_shift_129 : decode cX9_shift 129 = .ok (.iadd, 1) := by decide +kernel
theorem dX9_shift_130 : decode cX9_shift 130 = .ok (.laload, 1) := by decide +kernel
theorem dX9_shift_131 : decode cX9_shift 131 = .ok (.lastore, 1) := by decide +kernel
theorem dX9_shift_132 : decode cX9_shift 132 = .ok (.iinc 6 1, 3) := by decide +kernel
theorem dX9_shift_135 : decode cX9_shift 135 = .ok (.goto (-31), 3) := by decide +kernel
theorem dX9_shift_138 : decode cX9_shift 138 = .ok (.iconst 0, 1) := by decide +kernel
theorem dX9_shift_139 : decode cX9_shift 139 = .ok (.istore 6, 2) := by decide +kernel
theorem dX9_shift_141 : decode cX9_shift 141 = .ok (.iload 6, 2) := by decide +kernel
theorem dX9_shift_143 : decode cX9_shift 143 = .ok (.iload 5, 2) := by decide +kernel
theorem dX9_shift_145 : decode cX9_shift 145 = .ok (.if_icmp .ge 31, 3) := by decide +kernel
theorem dX9_shift_148 : decode cX9_shift 148 = .ok (.aload_n 0, 1) := by decide +kernel
theorem dX9_shift_149 : decode cX9_shift 149 = .ok (.getfield 217, 3) := by decide +kernel
theorem dX9_shift_152 : decode cX9_shift 152 = .ok (.bipush 60, 2) := by decide +kernel
theorem dX9_shift_154 : decode cX9_shift 154 = .ok (.iload_n 3, 1) := by decide +kernel
theorem dX9_shift_155 : decode cX9_shift 155 = .ok (.imul, 1) := by decide +kernel
theorem dX9_shift_156 : decode cX9_shift 156 = .ok (.iload 4, 2) := by decide +kernel
theorem dX9_shift_158 : decode cX9_shift 158 = .ok (.iadd, 1) := by decide +kernel
theorem dX9_shift_159 : decode cX9_shift 159 = .ok (.iload 6, 2) := by decide +kernel
theorem dX9_shift_161 : decode cX9_shift 161 = .ok (.iadd, 1) := by decide +kernel
theorem dX9_shift_162 : decode cX9_shift 162 = .ok (.aload_n 0, 1) := by decide +kernel
theorem dX9_shift_163 : decode cX9_shift 163 = .ok (.getfield 221, 3) := by decide +kernel
theorem dX9_shift_166 : decode cX9_shift 166 = .ok (.iload 6, 2) := by decide +kernel
theorem dX9_shift_168 : decode cX9_shift 168 = .ok (.laload, 1) := by decide +kernel
theorem dX9_shift_169 : decode cX9_shift 169 = .ok (.lastore, 1) := by decide +kernel
theorem dX9_shift_170 : decode cX9_shift 170 = .ok (.iinc 6 1, 3) := by decide +kernel
theorem dX9_shift_173 : decode cX9_shift 173 = .ok (.goto (-32), 3) := by decide +kernel
theorem dX9_shift_176 : decode cX9_shift 176 = .ok (.iload 5, 2) := by decide +kernel
theorem dX9_shift_178 : decode cX9_shift 178 = .ok (.ireturn, 1) := by decide +kernel
