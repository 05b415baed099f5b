theorem dX10_init_0 : decode cX10_init 0 = .ok (.aload_n 0, 1) := by decide +kernel
theorem dX10_init_1 : decode cX10_init 1 = .ok (.invokespecial 1, 3) := by decide +kernel
theorem dX10_init_4 : decode cX10_init 4 = .ok (.aload_n 0, 1) := by decide +kernel
theorem dX10_init_5 : decode cX10_init 5 = .ok (.iconst 0, 1) := by decide +kernel
theorem dX10_init_6 : decode cX10_init 6 = .ok (.putfield 7, 3) := by decide +kernel
theorem dX10_init_9 : decode cX10_init 9 = .ok (.aload_n 0, 1) := by decide +kernel
theorem dX10_init_10 : decode cX10_init 10 = .ok (.iconst 0, 1) := by decide +kernel
theorem dX10_init_11 : decode cX10_init 11 = .ok (.putfield 13, 3) := by decide +kernel
theorem dX10_init_14 : decode cX10_init 14 = .ok (.aload_n 0, 1) := by decide +kernel
theorem dX10_init_15 : decode cX10_init 15 = .ok (.iconst 0, 1) := by decide +kernel
theorem dX10_init_16 : decode cX10_init 16 = .ok (.putfield 16, 3) := by decide +kernel
theorem dX10_init_19 : decode cX10_init 19 = .ok (.aload_n 0, 1) := by decide +kernel
theorem dX10_init_20 : decode cX10_init 20 = .ok (.iconst 0, 1) := by decide +kernel
theorem dX10_init_21 : decode cX10_init 21 = .ok (.putfield 19, 3) := by decide +kernel
theorem dX10_init_24 : decode cX10_init 24 = .ok (.aload_n 0, 1) := by decide +kernel
theorem dX10_init_25 : decode cX10_init 25 = .ok (.bipush 16, 2) := by decide +kernel
theorem dX10_init_27 : decode cX10_init 27 = .ok (.newarray .int, 2) := by decide +kernel
theorem dX10_init_29 : decode cX10_init 29 = .ok (.putfield 22, 3) := by decide +kernel
theorem dX10_init_32 : decode cX10_init 32 = .ok (.aload_n 0, 1) := by decide +kernel
theorem dX10_init_33 : decode cX10_init 33 = .ok (.bipush 6, 2) := by decide +kernel
theorem dX10_init_35 : decode cX10_init 35 = .ok (.newarray .int, 2) := by decide +kernel
theorem dX10_init_37 : decode cX10_init 37 = .ok (.putfield 26, 3) := by decide +kernel
theorem dX10_init_40 : decode cX10_init 40 = .ok (.aload_n 0, 1) := by decide +kernel
theorem dX10_init_41 : decode cX10_init 41 = .ok (.bipush 6, 2) := by decide +kernel
theorem dX10_init_43 : decode cX10_init 43 = .ok (.newarray .int, 2) := by decide +kernel
theorem dX10_init_45 : decode cX10_init 45 = .ok (.putfield 29, 3) := by decide +kernel
theorem dX10_init_48 : decode cX10_init 48 = .ok (.aload_n 0, 1) := by decide +kernel
theorem dX10_init_49 : decode cX10_init 49 = .ok (.bipush 6, 2) := by decide +kernel
theorem dX10_init_51 : decode cX10_init 51 = .ok (.newarray .int, 2) := by decide +kernel
theorem dX10_init_53 : decode cX10_init 53 = .ok (.putfield 32, 3) := by decide +kernel
theorem dX10_init_56 : decode cX10_init 56 = .ok (.aload_n 0, 1) := by decide +kernel
theorem dX10_init_57 : decode cX10_init 57 = .ok (.bipush 6, 2) := by decide +kernel
theorem dX10_init_59 : decode cX10_init 59 = .ok (.newarray .int, 2) := by decide +kernel
theorem dX10_init_61 : decode cX10_init 61 = .ok (.putfield 35, 3) := by decide +kernel
theorem dX10_init_64 : decode cX10_init 64 = .ok (.aload_n 0, 1) := by decide +kernel
theorem dX10_init_65 : decode cX10_init 65 = .ok (.bipush 24, 2) := by decide +kernel
theorem dX10_init_67 : decode cX10_init 67 = .ok (.newarray .int, 2) := by decide +kernel
theorem dX10_init_69 : decode cX10_init 69 = .ok (.putfield 38, 3) := by decide +kernel
theorem dX10_init_72 : decode cX10_init 72 = .ok (.aload_n 0, 1) := by decide +kernel
theorem dX10_init_73 : decode cX10_init 73 = .ok (.iconst 0, 1) := by decide +kernel
theorem dX10_init_74 : decode cX10_init 74 = .ok (.putfield 41, 3) := by decide +kernel
theorem dX10_init_77 : decode cX10_init 77 = .ok (.aload_n 0, 1) := by decide +kernel
theorem dX10_init_78 : decode cX10_init 78 = .ok (.iconst (-1), 1) := by decide +kernel
theorem dX10_init_79 : decode cX10_init 79 = .ok (.putfield 44, 3) := by decide +kernel
theorem dX10_init_82 : decode cX10_init 82 = .ok (.aload_n 0, 1) := by decide +kernel
theorem dX10_init_83 : decode cX10_init 83 = .ok (.iconst 0, 1) := by decide +kernel
theorem dX10_init_84 : decode cX10_init 84 = .ok (.putfield 47, 3) := by decide +kernel
theorem dX10_init_87 : decode cX10_init 87 = .ok (.aload_n 0, 1) := by decide +kernel
theorem dX10_init_88 : decode cX10_init 88 = .ok (.iconst 0, 1) := by decide +kernel
theorem dX10_init_89 : decode cX10_init 89 = .ok (.putfield 50, 3) := by decide +kernel
theorem dX10_init_92 : decode cX10_init 92 = .ok (.aload_n 0, 1) := by decide +kernel
theorem dX10_init_93 : decode cX10_init 93 = .ok (.iconst 0, 1) := by decide +kernel
theorem dX10_init_94 : decode cX10_init 94 = .ok (.putfield 53, 3) := by decide +kernel
theorem dX10_init_97 : decode cX10_init 97 = .ok (.aload_n 0, 1) := by decide +kernel
theorem dX10_init_98 : decode cX10_init 98 = .ok (.bipush 100, 2) := by decide +kernel
theorem dX10_init_100 : decode cX10_init 100 = .ok (.newarray .int, 2) := by decide +kernel
theorem dX10_init_102 : decode cX10_init 102 = .ok (.putfield 56, 3) := by decide +kernel
theorem dX10_init_105 : decode cX10_init 105 = .ok (.aload_n 0, 1) := by decide +kernel
theorem dX10_init_106 : decode cX10_init 106 = .ok (.bipush 6, 2) := by decide +kernel
theorem dX10_init_108 : decode cX10_init 108 = .ok (.newarray .int, 2) := by decide +kernel
theorem dX10_init_110 : decode cX10_init 110 = .ok (.putfield 59, 3) := by decide +kernel
theorem dX10_init_113 : decode cX10_init 113 = .ok (.aload_n 0, 1) := by decide +kernel
theorem dX10_init_114 : decode cX10_init 114 = .ok (.bipush 60, 2) := by decide +kernel
theorem dX10_init_116 : decode cX10_init 116 = .ok (.newarray .int, 2) := by decide +kernel
theorem dX10_init_118 : decode cX10_init 118 = .ok (.putfield 62, 3) := by decide +kernel
theorem dX10_init_121 : decode cX10_init 121 = .ok (.aload_n 0, 1) := by decide +kernel
theorem dX10_init_122 : decode cX10_init 122 = .ok (.bipush 60, 2) := by decide +kernel
theorem dX10_init_124 : decode cX10_init 124 = .ok (.newarray .int, 2) := by decide +kernel
theorem dX10_init_126 : decode cX10_init 126 = .ok (.putfield 65, 3) := by decide +kernel
theorem dX10_init_129 : decode cX10_init 129 = .ok (.aload_n 0, 1) := by decide +kernel
theorem dX10_init_130 : decode cX10_init 130 = .ok (.bipush 60, 2) := by decide +kernel
theorem dX10_init_132 : decode cX10_init 132 = .ok (.newarray .int, 2) := by decide +kernel
theorem dX10_init_134 : decode cX10_init 134 = .ok (.putfield 68, 3) := by decide +kernel
theorem dX10_init_137 : decode cX10_init 137 = .ok (.aload_n 0, 1) := by decide +kernel
theorem dX10_init_138 : decode cX10_init 138 = .ok (.bipush 60, 2) := by decide +kernel
theorem dX10_init_140 : decode cX10_init 140 = .ok (.newarray .int, 2) := by decide +kernel
theorem dX10_init_142 : decode cX10_init 142 = .ok (.putfield 71, 3) := by decide +kernel
theorem dX10_init_145 : decode cX10_init 145 = .ok (.aload_n 0, 1) := by decide +kernel
theorem dX10_init_146 : decode cX10_init 146 = .ok (.sipush 600, 3) := by decide +kernel
theorem dX10_init_149 : decode cX10_init 149 = .ok (.newarray .int, 2) := by decide +kernel
theorem dX10_init_151 : decode cX10_init 151 = .ok (.putfield 74, 3) := by decide +kernel
theorem dX10_init_154 : decode cX10_init 154 = .ok (.aload_n 0, 1) := by decide +kernel
theorem dX10_init_155 : decode cX10_init 155 = .ok (.bipush 101, 2) := by decide +kernel
theorem dX10_init_157 : decode cX10_init 157 = .ok (.newarray .int, 2) := by decide +kernel
theorem dX10_init_159 : decode cX10_init 159 = .ok (.putfield 77, 3) := by decide +kernel
theorem dX10_init_162 : decode cX10_init 162 = .ok (.aload_n 0, 1) := by decide +kernel
theorem dX10_init_163 : decode cX10_init 163 = .ok (.iconst 0, 1) := by decide +kernel
theorem dX10_init_164 : decode cX10_init 164 = .ok (.putfield 80, 3) := by decide +kernel
theorem dX10_init_167 : decode cX10_init 167 = .ok (.aload_n 0, 1) := by decide +kernel
theorem dX10_init_168 : decode cX10_init 168 = .ok (.iconst 0, 1) := by decide +kernel
theorem dX10_init_169 : decode cX10_init 169 = .ok (.putfield 83, 3) := by decide +kernel
theorem dX10_init_172 : decode cX10_init 172 = .ok (.aload_n 0, 1) := by decide +kernel
theorem dX10_init_173 : decode cX10_init 173 = .ok (.iconst 0, 1) := by decide +kernel
theorem dX10_init_174 : decode cX10_init 174 = .ok (.putfield 86, 3) := by decide +kernel
theorem dX10_init_177 : decode cX10_init 177 = .ok (.aload_n 0, 1) := by decide +kernel
theorem dX10_init_178 : decode cX10_init 178 = .ok (.bipush 12, 2) := by decide +kernel
theorem dX10_init_180 : decode cX10_init 180 = .ok (.newarray .int, 2) := by decide +kernel
theorem dX10_init_182 : decode cX10_init 182 = .ok (.dup, 1) := by decide +kernel
theorem dX10_init_183 : decode cX10_init 183 = .ok (.iconst 0, 1) := by decide +kernel
theorem dX10_init_184 : decode cX10_init 184 = .ok (.bipush 115, 2) := by decide +kernel
theorem dX10_init_186 : decode cX10_init 186 = .ok (.iastore, 1) := by decide +kernel
theorem dX10_init_187 : decode cX10_init 187 = .ok (.dup, 1) := by decide +kernel
theorem dX10_init_188 : decode cX10_init 188 = .ok (.iconst 1, 1) := by decide +kernel
theorem dX10_init_189 : decode cX10_init 189 = .ok (.bipush 111, 2) := by decide +kernel
theorem dX10_init_191 : decode cX10_init 191 = .ok (.iastore, 1) := by decide +kernel
theorem dX10_init_192 : decode cX10_init 192 = .ok (.dup, 1) := by decide +kernel
theorem dX10_init_193 : decode cX10_init 193 = .ok (.iconst 2, 1) := by decide +kernel
theorem dX10_init_194 : decode cX10_init 194 = .ok (.bipush 102, 2) := by decide +kernel
theorem dX10_init_196 : decode cX10_init 196 = .ok (.iastore, 1) := by decide +kernel
theorem dX10_init_197 : decode cX10_init 197 = .ok (.dup, 1) := by decide +kernel
theorem dX10_init_198 : decode cX10_init 198 = .ok (.iconst 3, 1) := by decide +kernel
theorem dX10_init_199 : decode cX10_init 199 = .ok (.bipush 116, 2) := by decide +kernel
theorem dX10_init_201 : decode cX10_init 201 = .ok (.iastore, 1) := by decide +kernel
theorem dX10_init_202 : decode cX10_init 202 = .ok (.dup, 1) := by decide +kernel
theorem dX10_init_203 : decode cX10_init 203 = .ok (.iconst 4, 1) := by decide +kernel
theorem dX10_init_204 : decode cX10_init 204 = .ok (.bipush 104, 2) := by decide +kernel
theorem dX10_init_206 : decode cX10_init 206 = .ok (.iastore, 1) := by decide +kernel
theorem dX10_init_207 : decode cX10_init 207 = .ok (.dup, 1) := by decide +kernel
theorem dX10_init_208 : decode cX10_init 208 = .ok (.iconst 5, 1) := by decide +kernel
theorem dX10_init_209 : decode cX10_init 209 = .ok (.bipush 97, 2) := by decide +kernel
theorem dX10_init_211 : decode cX10_init 211 = .ok (.iastore, 1) := by decide +kernel
theorem dX10_init_212 : decode cX10_init 212 = .ok (.dup, 1) := by decide +kernel
theorem dX10_init_213 : decode cX10_init 213 = .ok (.bipush 6, 2) := by decide +kernel
theorem dX10_init_215 : decode cX10_init 215 = .ok (.bipush 114, 2) := by decide +kernel
theorem dX10_init_217 : decode cX10_init 217 = .ok (.iastore, 1) := by decide +kernel
theorem dX10_init_218 : decode cX10_init 218 = .ok (.dup, 1) := by decide +kernel
theorem dX10_init_219 : decode cX10_init 219 = .ok (.bipush 7, 2) := by decide +kernel
theorem dX10_init_221 : decode cX10_init 221 = .ok (.bipush 100, 2) := by decide +kernel
theorem dX10_init_223 : decode cX10_init 223 = .ok (.iastore, 1) := by decide +kernel
theorem dX10_init_224 : decode cX10_init 224 = .ok (.dup, 1) := by decide +kernel
theorem dX10_init_225 : decode cX10_init 225 = .ok (.bipush 8, 2) := by decide +kernel
theorem dX10_init_227 : decode cX10_init 227 = .ok (.bipush 98, 2) := by decide +kernel
theorem dX10_init_229 : decode cX10_init 229 = .ok (.iastore, 1) := by decide +kernel
theorem dX10_init_230 : decode cX10_init 230 = .ok (.dup, 1) := by decide +kernel
theorem dX10_init_231 : decode cX10_init 231 = .ok (.bipush 9, 2) := by decide +kernel
theorem dX10_init_233 : decode cX10_init 233 = .ok (.bipush 97, 2) := by decide +kernel
theorem dX10_init_235 : decode cX10_init 235 = .ok (.iastore, 1) := by decide +kernel
theorem dX10_init_236 : decode cX10_init 236 = .ok (.dup, 1) := by decide +kernel
theorem dX10_init_237 : decode cX10_init 237 = .ok (.bipush 10, 2) := by decide +kernel
theorem dX10_init_239 : decode cX10_init 239 = .ok (.bipush 108, 2) := by decide +kernel
theorem dX10_init_241 : decode cX10_init 241 = .ok (.iastore, 1) := by decide +kernel
theorem dX10_init_242 : decode cX10_init 242 = .ok (.dup, 1) := by decide +kernel
theorem dX10_init_243 : decode cX10_init 243 = .ok (.bipush 11, 2) := by decide +kernel
theorem dX10_init_245 : decode cX10_init 245 = .ok (.bipush 100, 2) := by decide +kernel
theorem dX10_init_247 : decode cX10_init 247 = .ok (.iastore, 1) := by decide +kernel
theorem dX10_init_248 : decode cX10_init 248 = .ok (.putfield 89, 3) := by decide +kernel
theorem dX10_init_251 : decode cX10_init 251 = .ok (.aload_n 0, 1) := by decide +kernel
theorem dX10_init_252 : decode cX10_init 252 = .ok (.bipush 100, 2) := by decide +kernel
theorem dX10_init_254 : decode cX10_init 254 = .ok (.newarray .boolean, 2) := by decide +kernel
theorem dX10_init_256 : decode cX10_init 256 = .ok (.putfield 92, 3) := by decide +kernel
theorem dX10_init_259 : decode cX10_init 259 = .ok (.aload_n 0, 1) := by decide +kernel
theorem dX10_init_260 : decode cX10_init 260 = .ok (.bipush 16, 2) := by decide +kernel
theorem dX10_init_262 : decode cX10_init 262 = .ok (.newarray .int, 2) := by decide +kernel
theorem dX10_init_264 : decode cX10_init 264 = .ok (.putfield 96, 3) := by decide +kernel
theorem dX10_init_267 : decode cX10_init 267 = .ok (.aload_n 0, 1) := by decide +kernel
theorem dX10_init_268 : decode cX10_init 268 = .ok (.bipush 16, 2) := by decide +kernel
theorem dX10_init_270 : decode cX10_init 270 = .ok (.newarray .int, 2) := by decide +kernel
theorem dX10_init_272 : decode cX10_init 272 = .ok (.putfield 99, 3) := by decide +kernel
theorem dX10_init_275 : decode cX10_init 275 = .ok (.aload_n 0, 1) := by decide +kernel
theorem dX10_init_276 : decode cX10_init 276 = .ok (.bipush 16, 2) := by decide +kernel
theorem dX10_init_278 : decode cX10_init 278 = .ok (.newarray .int, 2) := by decide +kernel
theorem dX10_init_280 : decode cX10_init 280 = .ok (.putfield 102, 3) := by decide +kernel
theorem dX10_init_283 : decode cX10_init 283 = .ok (.aload_n 0, 1) := by decide +kernel
theorem dX10_init_284 : decode cX10_init 284 = .ok (.iconst 0, 1) := by decide +kernel
theorem dX10_init_285 : decode cX10_init 285 = .ok (.putfield 105, 3) := by decide +kernel
theorem dX10_init_288 : decode cX10_init 288 = .ok (.aload_n 0, 1) := by decide +kernel
theorem dX10_init_289 : decode cX10_init 289 = .ok (.sipush 384, 3) := by decide +kernel
theorem dX10_init_292 : decode cX10_init 292 = .ok (.newarray .int, 2) := by decide +kernel
theorem dX10_init_294 : decode cX10_init 294 = .ok (.putfield 108, 3) := by decide +kernel
theorem dX10_init_297 : decode cX10_init 297 = .ok (.aload_n 0, 1) := by decide +kernel
theorem dX10_init_298 : decode cX10_init 298 = .ok (.sipush 9999, 3) := by decide +kernel
theorem dX10_init_301 : decode cX10_init 301 = .ok (.putfield 111, 3) := by decide +kernel
theorem dX10_init_304 : decode cX10_init 304 = .ok (.aload_n 0, 1) := by decide +kernel
theorem dX10_init_305 : decode cX10_init 305 = .ok (.iconst 0, 1) := by decide +kernel
theorem dX10_init_306 : decode cX10_init 306 = .ok (.putfield 114, 3) := by decide +kernel
theorem dX10_init_309 : decode cX10_init 309 = .ok (.aload_n 0, 1) := by decide +kernel
theorem dX10_init_310 : decode cX10_init 310 = .ok (.iconst 0, 1) := by decide +kernel
theorem dX10_init_311 : decode cX10_init 311 = .ok (.putfield 117, 3) := by decide +kernel
theorem dX10_init_314 : decode cX10_init 314 = .ok (.aload_n 0, 1) := by decide +kernel
theorem dX10_init_315 : decode cX10_init 315 = .ok (.iconst 0, 1) := by decide +kernel
theorem dX10_init_316 : decode cX10_init 316 = .ok (.putfield 120, 3) := by decide +kernel
theorem dX10_init_319 : decode cX10_init 319 = .ok (.aload_n 0, 1) := by decide +kernel
theorem dX10_init_320 : decode cX10_init 320 = .ok (.bipush 16, 2) := by decide +kernel
theorem dX10_init_322 : decode cX10_init 322 = .ok (.newarray .int, 2) := by decide +kernel
theorem dX10_init_324 : decode cX10_init 324 = .ok (.putfield 123, 3) := by decide +kernel
theorem dX10_init_327 : decode cX10_init 327 = .ok (.aload_n 0, 1) := by decide +kernel
theorem dX10_init_328 : decode cX10_init 328 = .ok (.bipush 16, 2) := by decide +kernel
theorem dX10_init_330 : decode cX10_init 330 = .ok (.newarray .int, 2) := by decide +kernel
theorem dX10_init_332 : decode cX10_init 332 = .ok (.putfield 126, 3) := by decide +kernel
theorem dX10_init_335 : decode cX10_init 335 = .ok (.aload_n 0, 1) := by decide +kernel
theorem dX10_init_336 : decode cX10_init 336 = .ok (.iconst 0, 1) := by decide +kernel
theorem dX10_init_337 : decode cX10_init 337 = .ok (.putfield 129, 3) := by decide +kernel
theorem dX10_init_340 : decode cX10_init 340 = .ok (.aload_n 0, 1) := by decide +kernel
theorem dX10_init_341 : decode cX10_init 341 = .ok (.iconst 5, 1) := by decide +kernel
theorem dX10_init_342 : decode cX10_init 342 = .ok (.newarray .int, 2) := by decide +kernel
theorem dX10_init_344 : decode cX10_init 344 = .ok (.putfield 132, 3) := by decide +kernel
theorem dX10_init_347 : decode cX10_init 347 = .ok (.aload_n 0, 1) := by decide +kernel
theorem dX10_init_348 : decode cX10_init 348 = .ok (.iconst 5, 1) := by decide +kernel
theorem dX10_init_349 : decode cX10_init 349 = .ok (.newarray .int, 2) := by decide +kernel
theorem dX10_init_351 : decode cX10_init 351 = .ok (.putfield 135, 3) := by decide +kernel
theorem dX10_init_354 : decode cX10_init 354 = .ok (.aload_n 0, 1) := by decide +kernel
theorem dX10_init_355 : decode cX10_init 355 = .ok (.iconst 5, 1) := by decide +kernel
theorem dX10_init_356 : decode cX10_init 356 = .ok (.newarray .int, 2) := by decide +kernel
theorem dX10_init_358 : decode cX10_init 358 = .ok (.putfield 138, 3) := by decide +kernel
theorem dX10_init_361 : decode cX10_init 361 = .ok (.aload_n 0, 1) := by decide +kernel
theorem dX10_init_362 : decode cX10_init 362 = .ok (.iconst 0, 1) := by decide +kernel
theorem dX10_init_363 : decode cX10_init 363 = .ok (.putfield 141, 3) := by decide +kernel
theorem dX10_init_366 : decode cX10_init 366 = .ok (.aload_n 0, 1) := by decide +kernel
theorem dX10_init_367 : decode cX10_init 367 = .ok (.iconst 0, 1) := by decide +kernel
theorem dX10_init_368 : decode cX10_init 368 = .ok (.putfield 144, 3) := by decide +kernel
theorem dX10_init_371 : decode cX10_init 371 = .ok (.aload_n 0, 1) := by decide +kernel
theorem dX10_init_372 : decode cX10_init 372 = .ok (.bipush 10, 2) := by decide +kernel
theorem dX10_init_374 : decode cX10_init 374 = .ok (.newarray .int, 2) := by decide +kernel
theorem dX10_init_376 : decode cX10_init 376 = .ok (.putfield 147, 3) := by decide +kernel
theorem dX10_init_379 : decode cX10_init 379 = .ok (.aload_n 0, 1) := by decide +kernel
theorem dX10_init_380 : decode cX10_init 380 = .ok (.bipush 10, 2) := by decide +kernel
theorem dX10_init_382 : decode cX10_init 382 = .ok (.newarray .int, 2) := by decide +kernel
theorem dX10_init_384 : decode cX10_init 384 = .ok (.putfield 150, 3) := by decide +kernel
theorem dX10_init_387 : decode cX10_init 387 = .ok (.aload_n 0, 1) := by decide +kernel
theorem dX10_init_388 : decode cX10_init 388 = .ok (.bipush 8, 2) := by decide +kernel
theorem dX10_init_390 : decode cX10_init 390 = .ok (.newarray .int, 2) := by decide +kernel
theorem dX10_init_392 : decode cX10_init 392 = .ok (.putfield 153, 3) := by decide +kernel
theorem dX10_init_395 : decode cX10_init 395 = .ok (.aload_n 0, 1) := by decide +kernel
theorem dX10_init_396 : decode cX10_init 396 = .ok (.bipush 8, 2) := by decide +kernel
theorem dX10_init_398 : decode cX10_init 398 = .ok (.newarray .int, 2) := by decide +kernel
theorem dX10_init_400 : decode cX10_init 400 = .ok (.putfield 156, 3) := by decide +kernel
theorem dX10_init_403 : decode cX10_init 403 = .ok (.aload_n 0, 1) := by decide +kernel
theorem dX10_init_404 : decode cX10_init 404 = .ok (.iconst 0, 1) := by decide +kernel
theorem dX10_init_405 : decode cX10_init 405 = .ok (.putfield 159, 3) := by decide +kernel
theorem dX10_init_408 : decode cX10_init 408 = .ok (.aload_n 0, 1) := by decide +kernel
theorem dX10_init_409 : decode cX10_init 409 = .ok (.iconst (-1), 1) := by decide +kernel
theorem dX10_init_410 : decode cX10_init 410 = .ok (.putfield 163, 3) := by decide +kernel
theorem dX10_init_413 : decode cX10_init 413 = .ok (.aload_n 0, 1) := by decide +kernel
theorem dX10_init_414 : decode cX10_init 414 = .ok (.iconst 0, 1) := by decide +kernel
theorem dX10_init_415 : decode cX10_init 415 = .ok (.putfield 166, 3) := by decide +kernel
theorem dX10_init_418 : decode cX10_init 418 = .ok (.aload_n 0, 1) := by decide +kernel
theorem dX10_init_419 : decode cX10_init 419 = .ok (.iconst 0, 1) := by decide +kernel
theorem dX10_init_420 : decode cX10_init 420 = .ok (.putfield 169, 3) := by decide +kernel
theorem dX10_init_423 : decode cX10_init 423 = .ok (.aload_n 0, 1) := by decide +kernel
theorem dX10_init_424 : decode cX10_init 424 = .ok (.iconst 0, 1) := by decide +kernel
theorem dX10_init_425 : decode cX10_init 425 = .ok (.putfield 172, 3) := by decide +kernel
theorem dX10_init_428 : decode cX10_init 428 = .ok (.aload_n 0, 1) := by decide +kernel
theorem dX10_init_429 : decode cX10_init 429 = .ok (.iconst 0, 1) := by decide +kernel
theorem dX10_init_430 : decode cX10_init 430 = .ok (.putfield 175, 3) := by decide +kernel
theorem dX10_init_433 : decode cX10_init 433 = .ok (.aload_n 0, 1) := by decide +kernel
theorem dX10_init_434 : decode cX10_init 434 = .ok (.iconst 0, 1) := by decide +kernel
theorem dX10_init_435 : decode cX10_init 435 = .ok (.putfield 178, 3) := by decide +kernel
theorem dX10_init_438 : decode cX10_init 438 = .ok (.aload_n 0, 1) := by decide +kernel
theorem dX10_init_439 : decode cX10_init 439 = .ok (.iconst 0, 1) := by decide +kernel
theorem dX10_init_440 : decode cX10_init 440 = .ok (.putfield 181, 3) := by decide +kernel
theorem dX10_init_443 : decode cX10_init 443 = .ok (.aload_n 0, 1) := by decide +kernel
theorem dX10_init_444 : decode cX10_init 444 = .ok (.iconst 0, 1) := by decide +kernel
theorem dX10_init_445 : decode cX10_init 445 = .ok (.putfield 184, 3) := by decide +kernel
theorem dX10_init_448 : decode cX10_init 448 = .ok (.aload_n 0, 1) := by decide +kernel
theorem dX10_init_449 : decode cX10_init 449 = .ok (.bipush 16, 2) := by decide +kernel
theorem dX10_init_451 : decode cX10_init 451 = .ok (.newarray .int, 2) := by decide +kernel
theorem dX10_init_453 : decode cX10_init 453 = .ok (.putfield 187, 3) := by decide +kernel
theorem dX10_init_456 : decode cX10_init 456 = .ok (.aload_n 0, 1) := by decide +kernel
theorem dX10_init_457 : decode cX10_init 457 = .ok (.bipush 6, 2) := by decide +kernel
theorem dX10_init_459 : decode cX10_init 459 = .ok (.newarray .int, 2) := by decide +kernel
theorem dX10_init_461 : decode cX10_init 461 = .ok (.putfield 190, 3) := by decide +kernel
theorem dX10_init_464 : decode cX10_init 464 = .ok (.aload_n 0, 1) := by decide +kernel
theorem dX10_init_465 : decode cX10_init 465 = .ok (.bipush 6, 2) := by decide +kernel
theorem dX10_init_467 : decode cX10_init 467 = .ok (.newarray .int, 2) := by decide +kernel
theorem dX10_init_469 : decode cX10_init 469 = .ok (.putfield 193, 3) := by decide +kernel
theorem dX10_init_472 : decode cX10_init 472 = .ok (.aload_n 0, 1) := by decide +kernel
theorem dX10_init_473 : decode cX10_init 473 = .ok (.bipush 6, 2) := by decide +kernel
theorem dX10_init_475 : decode cX10_init 475 = .ok (.newarray .int, 2) := by decide +kernel
theorem dX10_init_477 : decode cX10_init 477 = .ok (.putfield 196, 3) := by decide +kernel
theorem dX10_init_480 : decode cX10_init 480 = .ok (.aload_n 0, 1) := by decide +kernel
theorem dX10_init_481 : decode cX10_init 481 = .ok (.bipush 6, 2) := by decide +kernel
theorem dX10_init_483 : decode cX10_init 483 = .ok (.newarray .int, 2) := by decide +kernel
theorem dX10_init_485 : decode cX10_init 485 = .ok (.putfield 199, 3) := by decide +kernel
theorem dX10_init_488 : decode cX10_init 488 = .ok (.aload_n 0, 1) := by decide +kernel
theorem dX10_init_489 : decode cX10_init 489 = .ok (.bipush 24, 2) := by decide +kernel
theorem dX10_init_491 : decode cX10_init 491 = .ok (.newarray .int, 2) := by decide +kernel
theorem dX10_init_493 : decode cX10_init 493 = .ok (.putfield 202, 3) := by decide +kernel
theorem dX10_init_496 : decode cX10_init 496 = .ok (.aload_n 0, 1) := by decide +kernel
theorem dX10_init_497 : decode cX10_init 497 = .ok (.iconst 5, 1) := by decide +kernel
theorem dX10_init_498 : decode cX10_init 498 = .ok (.newarray .int, 2) := by decide +kernel
theorem dX10_init_500 : decode cX10_init 500 = .ok (.putfield 205, 3) := by decide +kernel
theorem dX10_init_503 : decode cX10_init 503 = .ok (.aload_n 0, 1) := by decide +kernel
theorem dX10_init_504 : decode cX10_init 504 = .ok (.iconst 5, 1) := by decide +kernel
theorem dX10_init_505 : decode cX10_init 505 = .ok (.newarray .int, 2) := by decide +kernel
theorem dX10_init_507 : decode cX10_init 507 = .ok (.putfield 208, 3) := by decide +kernel
theorem dX10_init_510 : decode cX10_init 510 = .ok (.aload_n 0, 1) := by decide +kernel
theorem dX10_init_511 : decode cX10_init 511 = .ok (.iconst 5, 1) := by decide +kernel
theorem dX10_init_512 : decode cX10_init 512 = .ok (.newarray .int, 2) := by decide +kernel
theorem dX10_init_514 : decode cX10_init 514 = .ok (.putfield 211, 3) := by decide +kernel
theorem dX10_init_517 : decode cX10_init 517 = .ok (.aload_n 0, 1) := by decide +kernel
theorem dX10_init_518 : decode cX10_init 518 = .ok (.bipush 10, 2) := by decide +kernel
theorem dX10_init_520 : decode cX10_init 520 = .ok (.newarray .int, 2) := by decide +kernel
theorem dX10_init_522 : decode cX10_init 522 = .ok (.putfield 214, 3) := by decide +kernel
theorem dX10_init_525 : decode cX10_init 525 = .ok (.aload_n 0, 1) := by decide +kernel
theorem dX10_init_526 : decode cX10_init 526 = .ok (.bipush 10, 2) := by decide +kernel
theorem dX10_init_528 : decode cX10_init 528 = .ok (.newarray .int, 2) := by decide +kernel
theorem dX10_init_530 : decode cX10_init 530 = .ok (.putfield 217, 3) := by decide +kernel
theorem dX10_init_533 : decode cX10_init 533 = .ok (.aload_n 0, 1) := by decide +kernel
theorem dX10_init_534 : decode cX10_init 534 = .ok (.bipush 8, 2) := by decide +kernel
theorem dX10_init_536 : decode cX10_init 536 = .ok (.newarray .int, 2) := by decide +kernel
theorem dX10_init_538 : decode cX10_init 538 = .ok (.putfield 220, 3) := by decide +kernel
theorem dX10_init_541 : decode cX10_init 541 = .ok (.aload_n 0, 1) := by decide +kernel
theorem dX10_init_542 : decode cX10_init 542 = .ok (.bipush 8, 2) := by decide +kernel
theorem dX10_init_544 : decode cX10_init 544 = .ok (.newarray .int, 2) := by decide +kernel
theorem dX10_init_546 : decode cX10_init 546 = .ok (.putfield 223, 3) := by decide +kernel
theorem dX10_init_549 : decode cX10_init 549 = .ok (.aload_n 0, 1) := by decide +kernel
theorem dX10_init_550 : decode cX10_init 550 = .ok (.iconst 0, 1) := by decide +kernel
theorem dX10_init_551 : decode cX10_init 551 = .ok (.putfield 226, 3) := by decide +kernel
theorem dX10_init_554 : decode cX10_init 554 = .ok (.aload_n 0, 1) := by decide +kernel
theorem dX10_init_555 : decode cX10_init 555 = .ok (.bipush 20, 2) := by decide +kernel
theorem dX10_init_557 : decode cX10_init 557 = .ok (.newarray .int, 2) := by decide +kernel
theorem dX10_init_559 : decode cX10_init 559 = .ok (.putfield 229, 3) := by decide +kernel
theorem dX10_init_562 : decode cX10_init 562 = .ok (.aload_n 0, 1) := by decide +kernel
theorem dX10_init_563 : decode cX10_init 563 = .ok (.bipush 6, 2) := by decide +kernel
theorem dX10_init_565 : decode cX10_init 565 = .ok (.newarray .int, 2) := by decide +kernel
theorem dX10_init_567 : decode cX10_init 567 = .ok (.dup, 1) := by decide +kernel
theorem dX10_init_568 : decode cX10_init 568 = .ok (.iconst 0, 1) := by decide +kernel
theorem dX10_init_569 : decode cX10_init 569 = .ok (.iconst (-1), 1) := by decide +kernel
theorem dX10_init_570 : decode cX10_init 570 = .ok (.iastore, 1) := by decide +kernel
theorem dX10_init_571 : decode cX10_init 571 = .ok (.dup, 1) := by decide +kernel
theorem dX10_init_572 : decode cX10_init 572 = .ok (.iconst 1, 1) := by decide +kernel
theorem dX10_init_573 : decode cX10_init 573 = .ok (.iconst (-1), 1) := by decide +kernel
theorem dX10_init_574 : decode cX10_init 574 = .ok (.iastore, 1) := by decide +kernel
theorem dX10_init_575 : decode cX10_init 575 = .ok (.dup, 1) := by decide +kernel
theorem dX10_init_576 : decode cX10_init 576 = .ok (.iconst 2, 1) := by decide +kernel
theorem dX10_init_577 : decode cX10_init 577 = .ok (.iconst (-1), 1) := by decide +kernel
theorem dX10_init_578 : decode cX10_init 578 = .ok (.iastore, 1) := by decide +kernel
theorem dX10_init_579 : decode cX10_init 579 = .ok (.dup, 1) := by decide +kernel
theorem dX10_init_580 : decode cX10_init 580 = .ok (.iconst 3, 1) := by decide +kernel
theorem dX10_init_581 : decode cX10_init 581 = .ok (.iconst (-1), 1) := by decide +kernel
theorem dX10_init_582 : decode cX10_init 582 = .ok (.iastore, 1) := by decide +kernel
theorem dX10_init_583 : decode cX10_init 583 = .ok (.dup, 1) := by decide +kernel
theorem dX10_init_584 : decode cX10_init 584 = .ok (.iconst 4, 1) := by decide +kernel
theorem dX10_init_585 : decode cX10_init 585 = .ok (.iconst (-1), 1) := by decide +kernel
theorem dX10_init_586 : decode cX10_init 586 = .ok (.iastore, 1) := by decide +kernel
theorem dX10_init_587 : decode cX10_init 587 = .ok (.dup, 1) := by decide +kernel
theorem dX10_init_588 : decode cX10_init 588 = .ok (.iconst 5, 1) := by decide +kernel
theorem dX10_init_589 : decode cX10_init 589 = .ok (.iconst (-1), 1) := by decide +kernel
theorem dX10_init_590 : decode cX10_init 590 = .ok (.iastore, 1) := by decide +kernel
theorem dX10_init_591 : decode cX10_init 591 = .ok (.putfield 232, 3) := by decide +kernel
theorem dX10_init_594 : decode cX10_init 594 = .ok (.aload_n 0, 1) := by decide +kernel
theorem dX10_init_595 : decode cX10_init 595 = .ok (.bipush 6, 2) := by decide +kernel
theorem dX10_init_597 : decode cX10_init 597 = .ok (.newarray .int, 2) := by decide +kernel
theorem dX10_init_599 : decode cX10_init 599 = .ok (.putfield 235, 3) := by decide +kernel
theorem dX10_init_602 : decode cX10_init 602 = .ok (.aload_n 0, 1) := by decide +kernel
theorem dX10_init_603 : decode cX10_init 603 = .ok (.sipush 360, 3) := by decide +kernel
theorem dX10_init_606 : decode cX10_init 606 = .ok (.newarray .long, 2) := by decide +kernel
theorem dX10_init_608 : decode cX10_init 608 = .ok (.putfield 238, 3) := by decide +kernel
theorem dX10_init_611 : decode cX10_init 611 = .ok (.aload_n 0, 1) := by decide +kernel
theorem dX10_init_612 : decode cX10_init 612 = .ok (.bipush 60, 2) := by decide +kernel
theorem dX10_init_614 : decode cX10_init 614 = .ok (.newarray .long, 2) := by decide +kernel
theorem dX10_init_616 : decode cX10_init 616 = .ok (.putfield 242, 3) := by decide +kernel
theorem dX10_init_619 : decode cX10_init 619 = .ok (.return_, 1) := by decide +kernel
theorem dX10_in_0 : decode cX10_in 0 = .ok (.iload_n 1, 1) := by decide +kernel
theorem dX10_in_1 : decode cX10_in 1 = .ok (.iload_n 2, 1) := by decide +kernel
theorem dX10_in_2 : decode cX10_in 2 = .ok (.if_icmp .lt 12, 3) := by decide +kernel
theorem dX10_in_5 : decode cX10_in 5 = .ok (.iload_n 1, 1) := by decide +kernel
theorem dX10_in_6 : decode cX10_in 6 = .ok (.iload_n 3, 1) := by decide +kernel
theorem dX10_in_7 : decode cX10_in 7 = .ok (.if_icmp .gt 7, 3) := by decide +kernel
theorem dX10_in_10 : decode cX10_in 10 = .ok (.iconst 1, 1) := by decide +kernel
theorem dX10_in_11 : decode cX10_in 11 = .ok (.goto 4, 3) := by decide +kernel
theorem dX10_in_14 : decode cX10_in 14 = .ok (.iconst 0, 1) := by decide +kernel
theorem dX10_in_15 : decode cX10_in 15 = .ok (.ireturn, 1) := by decide +kernel
theorem dX10_has_0 : decode cX10_has 0 = .ok (.iload_n 1, 1) := by decide +kernel
theorem dX10_has_1 : decode cX10_has 1 = .ok (.iload_n 2, 1) := by decide +kernel
theorem dX10_has_2 : decode cX10_has 2 = .ok (.ishr, 1) := by decide +kernel
theorem dX10_has_3 : decode cX10_has 3 = .ok (.iconst 1, 1) := by decide +kernel
theorem dX10_has_4 : decode cX10_has 4 = .ok (.iand, 1) := by decide +kernel
theorem dX10_has_5 : decode cX10_has 5 = .ok (.iconst 1, 1) := by decide +kernel
theorem dX10_has_6 : decode cX10_has 6 = .ok (.if_icmp .ne 7, 3) := by decide +kernel
theorem dX10_has_9 : decode cX10_has 9 = .ok (.iconst 1, 1) := by decide +kernel
theorem dX10_has_10 : decode cX10_has 10 = .ok (.goto 4, 3) := by decide +kernel
theorem dX10_has_13 : decode cX10_has 13 = .ok (.iconst 0, 1) := by decide +kernel
theorem dX10_has_14 : decode cX10_has 14 = .ok (.ireturn, 1) := by decide +kernel
theorem dX10_least_0 : decode cX10_least 0 = .ok (.iload_n 1, 1) := by decide +kernel
theorem dX10_least_1 : decode cX10_least 1 = .ok (.iload_n 2, 1) := by decide +kernel
theorem dX10_least_2 : decode cX10_least 2 = .ok (.if_icmp .ge 7, 3) := by decide +kernel
theorem dX10_least_5 : decode cX10_least 5 = .ok (.iload_n 1, 1) := by decide +kernel
theorem dX10_least_6 : decode cX10_least 6 = .ok (.goto 4, 3) := by decide +kernel
theorem dX10_least_9 : decode cX10_least 9 = .ok (.iload_n 2, 1) := by decide +kernel
theorem dX10_least_10 : decode cX10_least 10 = .ok (.ireturn, 1) := by decide +kernel
theorem dX10_bits_0 : decode cX10_bits 0 = .ok (.iconst 0, 1) := by decide +kernel
theorem dX10_bits_1 : decode cX10_bits 1 = .ok (.istore_n 2, 1) := by decide +kernel
theorem dX10_bits_2 : decode cX10_bits 2 = .ok (.iconst 0, 1) := by decide +kernel
theorem dX10_bits_3 : decode cX10_bits 3 = .ok (.istore_n 3, 1) := by decide +kernel
theorem dX10_bits_4 : decode cX10_bits 4 = .ok (.iload_n 3, 1) := by decide +kernel
theorem dX10_bits_5 : decode cX10_bits 5 = .ok (.bipush 16, 2) := by decide +kernel
theorem dX10_bits_7 : decode cX10_bits 7 = .ok (.if_icmp .ge 26, 3) := by decide +kernel
theorem dX10_bits_10 : decode cX10_bits 10 = .ok (.iload_n 2, 1) := by decide +kernel
theorem dX10_bits_11 : decode cX10_bits 11 = .ok (.aload_n 0, 1) := by decide +kernel
theorem dX10_bits_12 : decode cX10_bits 12 = .ok (.iload_n 1, 1) := by decide +kernel
theorem dX10_bits_13 : decode cX10_bits 13 = .ok (.iload_n 3, 1) := by decide +kernel
theorem dX10_bits_14 : decode cX10_bits 14 = .ok (.invokevirtual 245, 3) := by decide +kernel
theorem dX10_bits_17 : decode cX10_bits 17 = .ok (.ifCond .eq 7, 3) := by decide +kernel
theorem dX10_bits_20 : decode cX10_bits 20 = .ok (.iconst 1, 1) := by decide +kernel
theorem dX10_bits_21 : decode cX10_bits 21 = .ok (.goto 4, 3) := by decide +kernel
theorem dX10_bits_24 : decode cX10_bits 24 = .ok (.iconst 0, 1) := by decide +kernel
theorem dX10_bits_25 : decode cX10_bits 25 = .ok (.iadd, 1) := by decide +kernel
theorem dX10_bits_26 : decode cX10_bits 26 = .ok (.istore_n 2, 1) := by decide +kernel
theorem dX10_bits_27 : decode cX10_bits 27 = .ok (.iinc 3 1, 3) := by decide +kernel
theorem dX10_bits_30 : decode cX10_bits 30 = .ok (.goto (-26), 3) := by decide +kernel
theorem dX10_bits_33 : decode cX10_bits 33 = .ok (.iload_n 2, 1) := by decide +kernel
theorem dX10_bits_34 : decode cX10_bits 34 = .ok (.ireturn, 1) := by decide +kernel
theorem dX10_apart_0 : decode cX10_apart 0 = .ok (.iload_n 1, 1) := by decide +kernel
theorem dX10_apart_1 : decode cX10_apart 1 = .ok (.iload_n 2, 1) := by decide +kernel
theorem dX10_apart_2 : decode cX10_apart 2 = .ok (.if_icmp .le 9, 3) := by decide +kernel
theorem dX10_apart_5 : decode cX10_apart 5 = .ok (.iload_n 1, 1) := by decide +kernel
theorem dX10_apart_6 : decode cX10_apart 6 = .ok (.iload_n 2, 1) := by decide +kernel
theorem dX10_apart_7 : decode cX10_apart 7 = .ok (.isub, 1) := by decide +kernel
theorem dX10_apart_8 : decode cX10_apart 8 = .ok (.goto 6, 3) := by decide +kernel
theorem dX10_apart_11 : decode cX10_apart 11 = .ok (.iload_n 2, 1) := by decide +kernel
theorem dX10_apart_12 : decode cX10_apart 12 = .ok (.iload_n 1, 1) := by decide +kernel
theorem dX10_apart_13 : decode cX10_apart 13 = .ok (.isub, 1) := by decide +kernel
theorem dX10_apart_14 : decode cX10_apart 14 = .ok (.ireturn, 1) := by decide +kernel
theorem dX10_isNext_0 : decode cX10_isNext 0 = .ok (.aload_n 0, 1) := by decide +kernel
theorem dX10_isNext_1 : decode cX10_isNext 1 = .ok (.iload_n 1, 1) := by decide +kernel
theorem dX10_isNext_2 : decode cX10_isNext 2 = .ok (.iconst 4, 1) := by decide +kernel
theorem dX10_isNext_3 : decode cX10_isNext 3 = .ok (.idiv, 1) := by decide +kernel
theorem dX10_isNext_4 : decode cX10_isNext 4 = .ok (.iload_n 2, 1) := by decide +kernel
theorem dX10_isNext_5 : decode cX10_isNext 5 = .ok (.iconst 4, 1) := by decide +kernel
theorem dX10_isNext_6 : decode cX10_isNext 6 = .ok (.idiv, 1) := by decide +kernel
theorem dX10_isNext_7 : decode cX10_isNext 7 = .ok (.invokevirtual 249, 3) := by decide +kernel
theorem dX10_isNext_10 : decode cX10_isNext 10 = .ok (.aload_n 0, 1) := by decide +kernel
theorem dX10_isNext_11 : decode cX10_isNext 11 = .ok (.iload_n 1, 1) := by decide +kernel
theorem dX10_isNext_12 : decode cX10_isNext 12 = .ok (.iconst 4, 1) := by decide +kernel
theorem dX10_isNext_13 : decode cX10_isNext 13 = .ok (.irem, 1) := by decide +kernel
theorem dX10_isNext_14 : decode cX10_isNext 14 = .ok (.iload_n 2, 1) := by decide +kernel
theorem dX10_isNext_15 : decode cX10_isNext 15 = .ok (.iconst 4, 1) := by decide +kernel
theorem dX10_isNext_16 : decode cX10_isNext 16 = .ok (.irem, 1) := by decide +kernel
theorem dX10_isNext_17 : decode cX10_isNext 17 = .ok (.invokevirtual 249, 3) := by decide +kernel
theorem dX10_isNext_20 : decode cX10_isNext 20 = .ok (.iadd, 1) := by decide +kernel
theorem dX10_isNext_21 : decode cX10_isNext 21 = .ok (.iconst 1, 1) := by decide +kernel
theorem dX10_isNext_22 : decode cX10_isNext 22 = .ok (.if_icmp .ne 7, 3) := by decide +kernel
theorem dX10_isNext_25 : decode cX10_isNext 25 = .ok (.iconst 1, 1) := by decide +kernel
theorem dX10_isNext_26 : decode cX10_isNext 26 = .ok (.goto 4, 3) := by decide +kernel
theorem dX10_isNext_29 : decode cX10_isNext 29 = .ok (.iconst 0, 1) := by decide +kernel
theorem dX10_isNext_30 : decode cX10_isNext 30 = .ok (.ireturn, 1) := by decide +kernel
theorem dX10_isCell_0 : decode cX10_isCell 0 = .ok (.aload_n 0, 1) := by decide +kernel
theorem dX10_isCell_1 : decode cX10_isCell 1 = .ok (.iload_n 1, 1) := by decide +kernel
theorem dX10_isCell_2 : decode cX10_isCell 2 = .ok (.iconst 0, 1) := by decide +kernel
theorem dX10_isCell_3 : decode cX10_isCell 3 = .ok (.bipush 15, 2) := by decide +kernel
theorem dX10_isCell_5 : decode cX10_isCell 5 = .ok (.invokevirtual 253, 3) := by decide +kernel
theorem dX10_isCell_8 : decode cX10_isCell 8 = .ok (.ireturn, 1) := by decide +kernel
theorem dX10_isGoer_0 : decode cX10_isGoer 0 = .ok (.aload_n 0, 1) := by decide +kernel
theorem dX10_isGoer_1 : decode cX10_isGoer 1 = .ok (.iload_n 1, 1) := by decide +kernel
theorem dX10_isGoer_2 : decode cX10_isGoer 2 = .ok (.iconst 0, 1) := by decide +kernel
theorem dX10_isGoer_3 : decode cX10_isGoer 3 = .ok (.aload_n 0, 1) := by decide +kernel
theorem dX10_isGoer_4 : decode cX10_isGoer 4 = .ok (.getfield 7, 3) := by decide +kernel
theorem dX10_isGoer_7 : decode cX10_isGoer 7 = .ok (.iconst 1, 1) := by decide +kernel
theorem dX10_isGoer_8 : decode cX10_isGoer 8 = .ok (.isub, 1) := by decide +kernel
theorem dX10_isGoer_9 : decode cX10_isGoer 9 = .ok (.invokevirtual 253, 3) := by decide +kernel
theorem dX10_isGoer_12 : decode cX10_isGoer 12 = .ok (.ireturn, 1) := by decide +kernel
theorem dX10_isWear_0 : decode cX10_isWear 0 = .ok (.aload_n 0, 1) := by decide +kernel
theorem dX10_isWear_1 : decode cX10_isWear 1 = .ok (.iload_n 1, 1) := by decide +kernel
theorem dX10_isWear_2 : decode cX10_isWear 2 = .ok (.iconst 0, 1) := by decide +kernel
theorem dX10_isWear_3 : decode cX10_isWear 3 = .ok (.sipush 9999, 3) := by decide +kernel
theorem dX10_isWear_6 : decode cX10_isWear 6 = .ok (.invokevirtual 253, 3) := by decide +kernel
theorem dX10_isWear_9 : decode cX10_isWear 9 = .ok (.ireturn, 1) := by decide +kernel
theorem dX10_isDays_0 : decode cX10_isDays 0 = .ok (.aload_n 0, 1) := by decide +kernel
theorem dX10_isDays_1 : decode cX10_isDays 1 = .ok (.iload_n 1, 1) := by decide +kernel
theorem dX10_isDays_2 : decode cX10_isDays 2 = .ok (.iconst 0, 1) := by decide +kernel
theorem dX10_isDays_3 : decode cX10_isDays 3 = .ok (.bipush 60, 2) := by decide +kernel
theorem dX10_isDays_5 : decode cX10_isDays 5 = .ok (.invokevirtual 253, 3) := by decide +kernel
theorem dX10_isDays_8 : decode cX10_isDays 8 = .ok (.ireturn, 1) := by decide +kernel
theorem dX10_goer_0 : decode cX10_goer 0 = .ok (.aload_n 0, 1) := by decide +kernel
theorem dX10_goer_1 : decode cX10_goer 1 = .ok (.iload_n 1, 1) := by decide +kernel
theorem dX10_goer_2 : decode cX10_goer 2 = .ok (.iconst 0, 1) := by decide +kernel
theorem dX10_goer_3 : decode cX10_goer 3 = .ok (.bipush 6, 2) := by decide +kernel
theorem dX10_goer_5 : decode cX10_goer 5 = .ok (.invokevirtual 253, 3) := by decide +kernel
theorem dX10_goer_8 : decode cX10_goer 8 = .ok (.ifCond .eq 20, 3) := by decide +kernel
theorem dX10_goer_11 : decode cX10_goer 11 = .ok (.aload_n 0, 1) := by decide +kernel
theorem dX10_goer_12 : decode cX10_goer 12 = .ok (.iload_n 3, 1) := by decide +kernel
theorem dX10_goer_13 : decode cX10_goer 13 = .ok (.invokevirtual 257, 3) := by decide +kernel
theorem dX10_goer_16 : decode cX10_goer 16 = .ok (.ifCond .eq 12, 3) := by decide +kernel
theorem dX10_goer_19 : decode cX10_goer 19 = .ok (.aload_n 0, 1) := by decide +kernel
theorem dX10_goer_20 : decode cX10_goer 20 = .ok (.iload 4, 2) := by decide +kernel
theorem dX10_goer_22 : decode cX10_goer 22 = .ok (.invokevirtual 257, 3) := by decide +kernel
theorem dX10_goer_25 : decode cX10_goer 25 = .ok (.ifCond .ne 5, 3) := by decide +kernel
theorem dX10_goer_28 : decode cX10_goer 28 = .ok (.iconst (-1), 1) := by decide +kernel
theorem dX10_goer_29 : decode cX10_goer 29 = .ok (.ireturn, 1) := by decide +kernel
theorem dX10_goer_30 : decode cX10_goer 30 = .ok (.aload_n 0, 1) := by decide +kernel
theorem dX10_goer_31 : decode cX10_goer 31 = .ok (.iload_n 2, 1) := by decide +kernel
theorem dX10_goer_32 : decode cX10_goer 32 = .ok (.iconst 0, 1) := by decide +kernel
theorem dX10_goer_33 : decode cX10_goer 33 = .ok (.bipush 9, 2) := by decide +kernel
theorem dX10_goer_35 : decode cX10_goer 35 = .ok (.invokevirtual 253, 3) := by decide +kernel
theorem dX10_goer_38 : decode cX10_goer 38 = .ok (.ifCond .ne 6, 3) := by decide +kernel
theorem dX10_goer_41 : decode cX10_goer 41 = .ok (.bipush (-2), 2) := by decide +kernel
theorem dX10_goer_43 : decode cX10_goer 43 = .ok (.ireturn, 1) := by decide +kernel
theorem dX10_goer_44 : decode cX10_goer 44 = .ok (.aload_n 0, 1) := by decide +kernel
theorem dX10_goer_45 : decode cX10_goer 45 = .ok (.getfield 7, 3) := by decide +kernel
theorem dX10_goer_48 : decode cX10_goer 48 = .ok (.bipush 6, 2) := by decide +kernel
theorem dX10_goer_50 : decode cX10_goer 50 = .ok (.if_icmp .ne 6, 3) := by decide +kernel
theorem dX10_goer_53 : decode cX10_goer 53 = .ok (.bipush (-4), 2) := by decide +kernel
theorem dX10_goer_55 : decode cX10_goer 55 = .ok (.ireturn, 1) := by decide +kernel
theorem dX10_goer_56 : decode cX10_goer 56 = .ok (.aload_n 0, 1) := by decide +kernel
theorem dX10_goer_57 : decode cX10_goer 57 = .ok (.getfield 26, 3) := by decide +kernel
theorem dX10_goer_60 : decode cX10_goer 60 = .ok (.aload_n 0, 1) := by decide +kernel
theorem dX10_goer_61 : decode cX10_goer 61 = .ok (.getfield 7, 3) := by decide +kernel
theorem dX10_goer_64 : decode cX10_goer 64 = .ok (.iload_n 1, 1) := by decide +kernel
theorem dX10_goer_65 : decode cX10_goer 65 = .ok (.iastore, 1) := by decide +kernel
theorem dX10_goer_66 : decode cX10_goer 66 = .ok (.aload_n 0, 1) := by decide +kernel
theorem dX10_goer_67 : decode cX10_goer 67 = .ok (.getfield 29, 3) := by decide +kernel
theorem dX10_goer_70 : decode cX10_goer 70 = .ok (.aload_n 0, 1) := by decide +kernel
theorem dX10_goer_71 : decode cX10_goer 71 = .ok (.getfield 7, 3) := by decide +kernel
theorem dX10_goer_74 : decode cX10_goer 74 = .ok (.iload_n 2, 1) := by decide +kernel
theorem dX10_goer_75 : decode cX10_goer 75 = .ok (.iastore, 1) := by decide +kernel
theorem dX10_goer_76 : decode cX10_goer 76 = .ok (.aload_n 0, 1) := by decide +kernel
theorem dX10_goer_77 : decode cX10_goer 77 = .ok (.getfield 32, 3) := by decide +kernel
theorem dX10_goer_80 : decode cX10_goer 80 = .ok (.aload_n 0, 1) := by decide +kernel
theorem dX10_goer_81 : decode cX10_goer 81 = .ok (.getfield 7, 3) := by decide +kernel
theorem dX10_goer_84 : decode cX10_goer 84 = .ok (.iload_n 3, 1) := by decide +kernel
theorem dX10_goer_85 : decode cX10_goer 85 = .ok (.iastore, 1) := by decide +kernel
theorem dX10_goer_86 : decode cX10_goer 86 = .ok (.aload_n 0, 1) := by decide +kernel
theorem dX10_goer_87 : decode cX10_goer 87 = .ok (.getfield 35, 3) := by decide +kernel
theorem dX10_goer_90 : decode cX10_goer 90 = .ok (.aload_n 0, 1) := by decide +kernel
theorem dX10_goer_91 : decode cX10_goer 91 = .ok (.getfield 7, 3) := by decide +kernel
theorem dX10_goer_94 : decode cX10_goer 94 = .ok (.iload 4, 2) := by decide +kernel
theorem dX10_goer_96 : decode cX10_goer 96 = .ok (.iastore, 1) := by decide +kernel
theorem dX10_goer_97 : decode cX10_goer 97 = .ok (.aload_n 0, 1) := by decide +kernel
theorem dX10_goer_98 : decode cX10_goer 98 = .ok (.dup, 1) := by decide +kernel
theorem dX10_goer_99 : decode cX10_goer 99 = .ok (.getfield 13, 3) := by decide +kernel
theorem dX10_goer_102 : decode cX10_goer 102 = .ok (.iconst 1, 1) := by decide +kernel
theorem dX10_goer_103 : decode cX10_goer 103 = .ok (.aload_n 0, 1) := by decide +kernel
theorem dX10_goer_104 : decode cX10_goer 104 = .ok (.getfield 7, 3) := by decide +kernel
theorem dX10_goer_107 : decode cX10_goer 107 = .ok (.ishl, 1) := by decide +kernel
theorem dX10_goer_108 : decode cX10_goer 108 = .ok (.iconst (-1), 1) := by decide +kernel
theorem dX10_goer_109 : decode cX10_goer 109 = .ok (.ixor, 1) := by decide +kernel
theorem dX10_goer_110 : decode cX10_goer 110 = .ok (.iand, 1) := by decide +kernel
theorem dX10_goer_111 : decode cX10_goer 111 = .ok (.putfield 13, 3) := by decide +kernel
theorem dX10_goer_114 : decode cX10_goer 114 = .ok (.iconst 0, 1) := by decide +kernel
theorem dX10_goer_115 : decode cX10_goer 115 = .ok (.istore 5, 2) := by decide +kernel
theorem dX10_goer_117 : decode cX10_goer 117 = .ok (.iload 5, 2) := by decide +kernel
theorem dX10_goer_119 : decode cX10_goer 119 = .ok (.iconst 4, 1) := by decide +kernel
theorem dX10_goer_120 : decode cX10_goer 120 = .ok (.if_icmp .ge 24, 3) := by decide +kernel
theorem dX10_goer_123 : decode cX10_goer 123 = .ok (.aload_n 0, 1) := by decide +kernel
theorem dX10_goer_124 : decode cX10_goer 124 = .ok (.getfield 38, 3) := by decide +kernel
theorem dX10_goer_127 : decode cX10_goer 127 = .ok (.iconst 4, 1) := by decide +kernel
theorem dX10_goer_128 : decode cX10_goer 128 = .ok (.aload_n 0, 1) := by decide +kernel
theorem dX10_goer_129 : decode cX10_goer 129 = .ok (.getfield 7, 3) := by decide +kernel
theorem dX10_goer_132 : decode cX10_goer 132 = .ok (.imul, 1) := by decide +kernel
theorem dX10_goer_133 : decode cX10_goer 133 = .ok (.iload 5, 2) := by decide +kernel
theorem dX10_goer_135 : decode cX10_goer 135 = .ok (.iadd, 1) := by decide +kernel
theorem dX10_goer_136 : decode cX10_goer 136 = .ok (.iconst 0, 1) := by decide +kernel
theorem dX10_goer_137 : decode cX10_goer 137 = .ok (.iastore, 1) := by decide +kernel
theorem dX10_goer_138 : decode cX10_goer 138 = .ok (.iinc 5 1, 3) := by decide +kernel
theorem dX10_goer_141 : decode cX10_goer 141 = .ok (.goto (-24), 3) := by decide +kernel
theorem dX10_goer_144 : decode cX10_goer 144 = .ok (.aload_n 0, 1) := by decide +kernel
theorem dX10_goer_145 : decode cX10_goer 145 = .ok (.dup, 1) := by decide +kernel
theorem dX10_goer_146 : decode cX10_goer 146 = .ok (.getfield 7, 3) := by decide +kernel
theorem dX10_goer_149 : decode cX10_goer 149 = .ok (.iconst 1, 1) := by decide +kernel
theorem dX10_goer_150 : decode cX10_goer 150 = .ok (.iadd, 1) := by decide +kernel
theorem dX10_goer_151 : decode cX10_goer 151 = .ok (.putfield 7, 3) := by decide +kernel
theorem dX10_goer_154 : decode cX10_goer 154 = .ok (.aload_n 0, 1) := by decide +kernel
theorem dX10_goer_155 : decode cX10_goer 155 = .ok (.getfield 7, 3) := by decide +kernel
theorem dX10_goer_158 : decode cX10_goer 158 = .ok (.iconst 1, 1) := by decide +kernel
theorem dX10_goer_159 : decode cX10_goer 159 = .ok (.isub, 1) := by decide +kernel
theorem dX10_goer_160 : decode cX10_goer 160 = .ok (.ireturn, 1) := by decide +kernel
theorem dX10_set_0 : decode cX10_set 0 = .ok (.aload_n 0, 1) := by decide +kernel
theorem dX10_set_1 : decode cX10_set 1 = .ok (.iload_n 1, 1) := by decide +kernel
theorem dX10_set_2 : decode cX10_set 2 = .ok (.invokevirtual 257, 3) := by decide +kernel
theorem dX10_set_5 : decode cX10_set 5 = .ok (.ifCond .ne 5, 3) := by decide +kernel
theorem dX10_set_8 : decode cX10_set 8 = .ok (.iconst (-1), 1) := by decide +kernel
theorem dX10_set_9 : decode cX10_set 9 = .ok (.ireturn, 1) := by decide +kernel
theorem dX10_set_10 : decode cX10_set 10 = .ok (.aload_n 0, 1) := by decide +kernel
theorem dX10_set_11 : decode cX10_set 11 = .ok (.iload_n 2, 1) := by decide +kernel
theorem dX10_set_12 : decode cX10_set 12 = .ok (.invokevirtual 261, 3) := by decide +kernel
theorem dX10_set_15 : decode cX10_set 15 = .ok (.ifCond .ne 6, 3) := by decide +kernel
theorem dX10_set_18 : decode cX10_set 18 = .ok (.bipush (-2), 2) := by decide +kernel
theorem dX10_set_20 : decode cX10_set 20 = .ok (.ireturn, 1) := by decide +kernel
theorem dX10_set_21 : decode cX10_set 21 = .ok (.aload_n 0, 1) := by decide +kernel
theorem dX10_set_22 : decode cX10_set 22 = .ok (.getfield 22, 3) := by decide +kernel
theorem dX10_set_25 : decode cX10_set 25 = .ok (.iload_n 1, 1) := by decide +kernel
theorem dX10_set_26 : decode cX10_set 26 = .ok (.iaload, 1) := by decide +kernel
theorem dX10_set_27 : decode cX10_set 27 = .ok (.istore_n 3, 1) := by decide +kernel
theorem dX10_set_28 : decode cX10_set 28 = .ok (.aload_n 0, 1) := by decide +kernel
theorem dX10_set_29 : decode cX10_set 29 = .ok (.getfield 22, 3) := by decide +kernel
theorem dX10_set_32 : decode cX10_set 32 = .ok (.iload_n 1, 1) := by decide +kernel
theorem dX10_set_33 : decode cX10_set 33 = .ok (.iload_n 2, 1) := by decide +kernel
theorem dX10_set_34 : decode cX10_set 34 = .ok (.iastore, 1) := by decide +kernel
theorem dX10_set_35 : decode cX10_set 35 = .ok (.iload_n 3, 1) := by decide +kernel
theorem dX10_set_36 : decode cX10_set 36 = .ok (.ireturn, 1) := by decide +kernel
theorem dX10_move_0 : decode cX10_move 0 = .ok (.aload_n 0, 1) := by decide +kernel
theorem dX10_move_1 : decode cX10_move 1 = .ok (.iload_n 1, 1) := by decide +kernel
theorem dX10_move_2 : decode cX10_move 2 = .ok (.invokevirtual 264, 3) := by decide +kernel
theorem dX10_move_5 : decode cX10_move 5 = .ok (.ifCond .eq 21, 3) := by decide +kernel
theorem dX10_move_8 : decode cX10_move 8 = .ok (.aload_n 0, 1) := by decide +kernel
theorem dX10_move_9 : decode cX10_move 9 = .ok (.iload_n 2, 1) := by decide +kernel
theorem dX10_move_10 : decode cX10_move 10 = .ok (.iconst 0, 1) := by decide +kernel
theorem dX10_move_11 : decode cX10_move 11 = .ok (.iconst 1, 1) := by decide +kernel
theorem dX10_move_12 : decode cX10_move 12 = .ok (.invokevirtual 253, 3) := by decide +kernel
theorem dX10_move_15 : decode cX10_move 15 = .ok (.ifCond .eq 11, 3) := by decide +kernel
theorem dX10_move_18 : decode cX10_move 18 = .ok (.aload_n 0, 1) := by decide +kernel
theorem dX10_move_19 : decode cX10_move 19 = .ok (.iload_n 3, 1) := by decide +kernel
theorem dX10_move_20 : decode cX10_move 20 = .ok (.invokevirtual 257, 3) := by decide +kernel
theorem dX10_move_23 : decode cX10_move 23 = .ok (.ifCond .ne 5, 3) := by decide +kernel
theorem dX10_move_26 : decode cX10_move 26 = .ok (.iconst (-1), 1) := by decide +kernel
theorem dX10_move_27 : decode cX10_move 27 = .ok (.ireturn, 1) := by decide +kernel
theorem dX10_move_28 : decode cX10_move 28 = .ok (.iload_n 2, 1) := by decide +kernel
theorem dX10_move_29 : decode cX10_move 29 = .ok (.ifCond .ne 12, 3) := by decide +kernel
theorem dX10_move_32 : decode cX10_move 32 = .ok (.aload_n 0, 1) := by decide +kernel
theorem dX10_move_33 : decode cX10_move 33 = .ok (.getfield 32, 3) := by decide +kernel
theorem dX10_move_36 : decode cX10_move 36 = .ok (.iload_n 1, 1) := by decide +kernel
theorem dX10_move_37 : decode cX10_move 37 = .ok (.iaload, 1) := by decide +kernel
theorem dX10_move_38 : decode cX10_move 38 = .ok (.goto 9, 3) := by decide +kernel
theorem dX10_move_41 : decode cX10_move 41 = .ok (.aload_n 0, 1) := by decide +kernel
theorem dX10_move_42 : decode cX10_move 42 = .ok (.getfield 35, 3) := by decide +kernel
theorem dX10_move_45 : decode cX10_move 45 = .ok (.iload_n 1, 1) := by decide +kernel
theorem dX10_move_46 : decode cX10_move 46 = .ok (.iaload, 1) := by decide +kernel
theorem dX10_move_47 : decode cX10_move 47 = .ok (.istore 4, 2) := by decide +kernel
theorem dX10_move_49 : decode cX10_move 49 = .ok (.iload_n 2, 1) := by decide +kernel
theorem dX10_move_50 : decode cX10_move 50 = .ok (.ifCond .ne 13, 3) := by decide +kernel
theorem dX10_move_53 : decode cX10_move 53 = .ok (.aload_n 0, 1) := by decide +kernel
theorem dX10_move_54 : decode cX10_move 54 = .ok (.getfield 32, 3) := by decide +kernel
theorem dX10_move_57 : decode cX10_move 57 = .ok (.iload_n 1, 1) := by decide +kernel
theorem dX10_move_58 : decode cX10_move 58 = .ok (.iload_n 3, 1) := by decide +kernel
theorem dX10_move_59 : decode cX10_move 59 = .ok (.iastore, 1) := by decide +kernel
theorem dX10_move_60 : decode cX10_move 60 = .ok (.goto 10, 3) := by decide +kernel
theorem dX10_move_63 : decode cX10_move 63 = .ok (.aload_n 0, 1) := by decide +kernel
theorem dX10_move_64 : decode cX10_move 64 = .ok (.getfield 35, 3) := by decide +kernel
theorem dX10_move_67 : decode cX10_move 67 = .ok (.iload_n 1, 1) := by decide +kernel
theorem dX10_move_68 : decode cX10_move 68 = .ok (.iload_n 3, 1) := by decide +kernel
theorem dX10_move_69 : decode cX10_move 69 = .ok (.iastore, 1) := by decide +kernel
theorem dX10_move_70 : decode cX10_move 70 = .ok (.iload 4, 2) := by decide +kernel
theorem dX10_move_72 : decode cX10_move 72 = .ok (.ireturn, 1) := by decide +kernel
theorem dX10_goes_0 : decode cX10_goes 0 = .ok (.aload_n 0, 1) := by decide +kernel
theorem dX10_goes_1 : decode cX10_goes 1 = .ok (.iload_n 2, 1) := by decide +kernel
theorem dX10_goes_2 : decode cX10_goes 2 = .ok (.ifCond .eq 14, 3) := by decide +kernel
theorem dX10_goes_5 : decode cX10_goes 5 = .ok (.aload_n 0, 1) := by decide +kernel
theorem dX10_goes_6 : decode cX10_goes 6 = .ok (.getfield 13, 3) := by decide +kernel
theorem dX10_goes_9 : decode cX10_goes 9 = .ok (.iconst 1, 1) := by decide +kernel
theorem dX10_goes_10 : decode cX10_goes 10 = .ok (.iload_n 1, 1) := by decide +kernel
theorem dX10_goes_11 : decode cX10_goes 11 = .ok (.ishl, 1) := by decide +kernel
theorem dX10_goes_12 : decode cX10_goes 12 = .ok (.ior, 1) := by decide +kernel
theorem dX10_goes_13 : decode cX10_goes 13 = .ok (.goto 13, 3) := by decide +kernel
theorem dX10_goes_16 : decode cX10_goes 16 = .ok (.aload_n 0, 1) := by decide +kernel
theorem dX10_goes_17 : decode cX10_goes 17 = .ok (.getfield 13, 3) := by decide +kernel
theorem dX10_goes_20 : decode cX10_goes 20 = .ok (.iconst 1, 1) := by decide +kernel
theorem dX10_goes_21 : decode cX10_goes 21 = .ok (.iload_n 1, 1) := by decide +kernel
theorem dX10_goes_22 : decode cX10_goes 22 = .ok (.ishl, 1) := by decide +kernel
theorem dX10_goes_23 : decode cX10_goes 23 = .ok (.iconst (-1), 1) := by decide +kernel
theorem dX10_goes_24 : decode cX10_goes 24 = .ok (.ixor, 1) := by decide +kernel
theorem dX10_goes_25 : decode cX10_goes 25 = .ok (.iand, 1) := by decide +kernel
theorem dX10_goes_26 : decode cX10_goes 26 = .ok (.putfield 13, 3) := by decide +kernel
theorem dX10_goes_29 : decode cX10_goes 29 = .ok (.return_, 1) := by decide +kernel
theorem dX10_away_0 : decode cX10_away 0 = .ok (.aload_n 0, 1) := by decide +kernel
theorem dX10_away_1 : decode cX10_away 1 = .ok (.iload_n 1, 1) := by decide +kernel
theorem dX10_away_2 : decode cX10_away 2 = .ok (.invokevirtual 264, 3) := by decide +kernel
theorem dX10_away_5 : decode cX10_away 5 = .ok (.ifCond .ne 5, 3) := by decide +kernel
theorem dX10_away_8 : decode cX10_away 8 = .ok (.iconst (-1), 1) := by decide +kernel
theorem dX10_away_9 : decode cX10_away 9 = .ok (.ireturn, 1) := by decide +kernel
theorem dX10_away_10 : decode cX10_away 10 = .ok (.aload_n 0, 1) := by decide +kernel
theorem dX10_away_11 : decode cX10_away 11 = .ok (.aload_n 0, 1) := by decide +kernel
theorem dX10_away_12 : decode cX10_away 12 = .ok (.getfield 13, 3) := by decide +kernel
theorem dX10_away_15 : decode cX10_away 15 = .ok (.iload_n 1, 1) := by decide +kernel
theorem dX10_away_16 : decode cX10_away 16 = .ok (.invokevirtual 245, 3) := by decide +kernel
theorem dX10_away_19 : decode cX10_away 19 = .ok (.ifCond .eq 7, 3) := by decide +kernel
theorem dX10_away_22 : decode cX10_away 22 = .ok (.iconst 1, 1) := by decide +kernel
theorem dX10_away_23 : decode cX10_away 23 = .ok (.goto 4, 3) := by decide +kernel
theorem dX10_away_26 : decode cX10_away 26 = .ok (.iconst 0, 1) := by decide +kernel
theorem dX10_away_27 : decode cX10_away 27 = .ok (.istore_n 3, 1) := by decide +kernel
theorem dX10_away_28 : decode cX10_away 28 = .ok (.aload_n 0, 1) := by decide +kernel
theorem dX10_away_29 : decode cX10_away 29 = .ok (.iload_n 1, 1) := by decide +kernel
theorem dX10_away_30 : decode cX10_away 30 = .ok (.iload_n 2, 1) := by decide +kernel
theorem dX10_away_31 : decode cX10_away 31 = .ok (.invokevirtual 267, 3) := by decide +kernel
theorem dX10_away_34 : decode cX10_away 34 = .ok (.iload_n 3, 1) := by decide +kernel
theorem dX10_away_35 : decode cX10_away 35 = .ok (.ireturn, 1) := by decide +kernel
theorem dX10_stand_0 : decode cX10_stand 0 = .ok (.aload_n 0, 1) := by decide +kernel
theorem dX10_stand_1 : decode cX10_stand 1 = .ok (.iload_n 1, 1) := by decide +kernel
theorem dX10_stand_2 : decode cX10_stand 2 = .ok (.invokevirtual 257, 3) := by decide +kernel
theorem dX10_stand_5 : decode cX10_stand 5 = .ok (.ifCond .ne 5, 3) := by decide +kernel
theorem dX10_stand_8 : decode cX10_stand 8 = .ok (.iconst (-1), 1) := by decide +kernel
theorem dX10_stand_9 : decode cX10_stand 9 = .ok (.ireturn, 1) := by decide +kernel
theorem dX10_stand_10 : decode cX10_stand 10 = .ok (.aload_n 0, 1) := by decide +kernel
theorem dX10_stand_11 : decode cX10_stand 11 = .ok (.aload_n 0, 1) := by decide +kernel
theorem dX10_stand_12 : decode cX10_stand 12 = .ok (.getfield 16, 3) := by decide +kernel
theorem dX10_stand_15 : decode cX10_stand 15 = .ok (.iload_n 1, 1) := by decide +kernel
theorem dX10_stand_16 : decode cX10_stand 16 = .ok (.invokevirtual 245, 3) := by decide +kernel
theorem dX10_stand_19 : decode cX10_stand 19 = .ok (.ifCond .eq 7, 3) := by decide +kernel
theorem dX10_stand_22 : decode cX10_stand 22 = .ok (.iconst 1, 1) := by decide +kernel
theorem dX10_stand_23 : decode cX10_stand 23 = .ok (.goto 4, 3) := by decide +kernel
theorem dX10_stand_26 : decode cX10_stand 26 = .ok (.iconst 0, 1) := by decide +kernel
theorem dX10_stand_27 : decode cX10_stand 27 = .ok (.istore_n 3, 1) := by decide +kernel
theorem dX10_stand_28 : decode cX10_stand 28 = .ok (.aload_n 0, 1) := by decide +kernel
theorem dX10_stand_29 : decode cX10_stand 29 = .ok (.iload_n 2, 1) := by decide +kernel
theorem dX10_stand_30 : decode cX10_stand 30 = .ok (.ifCond .eq 14, 3) := by decide +kernel
theorem dX10_stand_33 : decode cX10_stand 33 = .ok (.aload_n 0, 1) := by decide +kernel
theorem dX10_stand_34 : decode cX10_stand 34 = .ok (.getfield 16, 3) := by decide +kernel
theorem dX10_stand_37 : decode cX10_stand 37 = .ok (.iconst 1, 1) := by decide +kernel
theorem dX10_stand_38 : decode cX10_stand 38 = .ok (.iload_n 1, 1) := by decide +kernel
theorem dX10_stand_39 : decode cX10_stand 39 = .ok (.ishl, 1) := by decide +kernel
theorem dX10_stand_40 : decode cX10_stand 40 = .ok (.ior, 1) := by decide +kernel
theorem dX10_stand_41 : decode cX10_stand 41 = .ok (.goto 13, 3) := by decide +kernel
theorem dX10_stand_44 : decode cX10_stand 44 = .ok (.aload_n 0, 1) := by decide +kernel
theorem dX10_stand_45 : decode cX10_stand 45 = .ok (.getfield 16, 3) := by decide +kernel
theorem dX10_stand_48 : decode cX10_stand 48 = .ok (.iconst 1, 1) := by decide +kernel
theorem dX10_stand_49 : decode cX10_stand 49 = .ok (.iload_n 1, 1) := by decide +kernel
theorem dX10_stand_50 : decode cX10_stand 50 = .ok (.ishl, 1) := by decide +kernel
theorem dX10_stand_51 : decode cX10_stand 51 = .ok (.iconst (-1), 1) := by decide +kernel
theorem dX10_stand_52 : decode cX10_stand 52 = .ok (.ixor, 1) := by decide +kernel
theorem dX10_stand_53 : decode cX10_stand 53 = .ok (.iand, 1) := by decide +kernel
theorem dX10_stand_54 : decode cX10_stand 54 = .ok (.putfield 16, 3) := by decide +kernel
theorem dX10_stand_57 : decode cX10_stand 57 = .ok (.iload_n 3, 1) := by decide +kernel
theorem dX10_stand_58 : decode cX10_stand 58 = .ok (.ireturn, 1) := by decide +kernel
theorem dX10_row_0 : decode cX10_row 0 = .ok (.aload_n 0, 1) := by decide +kernel
theorem dX10_row_1 : decode cX10_row 1 = .ok (.iload_n 1, 1) := by decide +kernel
theorem dX10_row_2 : decode cX10_row 2 = .ok (.invokevirtual 264, 3) := by decide +kernel
theorem dX10_row_5 : decode cX10_row 5 = .ok (.ifCond .eq 13, 3) := by decide +kernel
theorem dX10_row_8 : decode cX10_row 8 = .ok (.aload_n 0, 1) := by decide +kernel
theorem dX10_row_9 : decode cX10_row 9 = .ok (.iload_n 2, 1) := by decide +kernel
theorem dX10_row_10 : decode cX10_row 10 = .ok (.iconst 0, 1) := by decide +kernel
theorem dX10_row_11 : decode cX10_row 11 = .ok (.iconst 3, 1) := by decide +kernel
theorem dX10_row_12 : decode cX10_row 12 = .ok (.invokevirtual 253, 3) := by decide +kernel
theorem dX10_row_15 : decode cX10_row 15 = .ok (.ifCond .ne 5, 3) := by decide +kernel
theorem dX10_row_18 : decode cX10_row 18 = .ok (.iconst (-1), 1) := by decide +kernel
theorem dX10_row_19 : decode cX10_row 19 = .ok (.ireturn, 1) := by decide +kernel
theorem dX10_row_20 : decode cX10_row 20 = .ok (.aload_n 0, 1) := by decide +kernel
theorem dX10_row_21 : decode cX10_row 21 = .ok (.iload_n 3, 1) := by decide +kernel
theorem dX10_row_22 : decode cX10_row 22 = .ok (.iconst 0, 1) := by decide +kernel
theorem dX10_row_23 : decode cX10_row 23 = .ok (.bipush 9, 2) := by decide +kernel
theorem dX10_row_25 : decode cX10_row 25 = .ok (.invokevirtual 253, 3) := by decide +kernel
theorem dX10_row_28 : decode cX10_row 28 = .ok (.ifCond .ne 6, 3) := by decide +kernel
theorem dX10_row_31 : decode cX10_row 31 = .ok (.bipush (-2), 2) := by decide +kernel
theorem dX10_row_33 : decode cX10_row 33 = .ok (.ireturn, 1) := by decide +kernel
theorem dX10_row_34 : decode cX10_row 34 = .ok (.aload_n 0, 1) := by decide +kernel
theorem dX10_row_35 : decode cX10_row 35 = .ok (.getfield 26, 3) := by decide +kernel
theorem dX10_row_38 : decode cX10_row 38 = .ok (.iload_n 1, 1) := by decide +kernel
theorem dX10_row_39 : decode cX10_row 39 = .ok (.iaload, 1) := by decide +kernel
theorem dX10_row_40 : decode cX10_row 40 = .ok (.bipush 6, 2) := by decide +kernel
theorem dX10_row_42 : decode cX10_row 42 = .ok (.if_icmp .eq 6, 3) := by decide +kernel
theorem dX10_row_45 : decode cX10_row 45 = .ok (.bipush (-3), 2) := by decide +kernel
theorem dX10_row_47 : decode cX10_row 47 = .ok (.ireturn, 1) := by decide +kernel
theorem dX10_row_48 : decode cX10_row 48 = .ok (.aload_n 0, 1) := by decide +kernel
theorem dX10_row_49 : decode cX10_row 49 = .ok (.getfield 38, 3) := by decide +kernel
theorem dX10_row_52 : decode cX10_row 52 = .ok (.iconst 4, 1) := by decide +kernel
theorem dX10_row_53 : decode cX10_row 53 = .ok (.iload_n 1, 1) := by decide +kernel
theorem dX10_row_54 : decode cX10_row 54 = .ok (.imul, 1) := by decide +kernel
theorem dX10_row_55 : decode cX10_row 55 = .ok (.iload_n 2, 1) := by decide +kernel
theorem dX10_row_56 : decode cX10_row 56 = .ok (.iadd, 1) := by decide +kernel
theorem dX10_row_57 : decode cX10_row 57 = .ok (.iaload, 1) := by decide +kernel
theorem dX10_row_58 : decode cX10_row 58 = .ok (.istore 4, 2) := by decide +kernel
theorem dX10_row_60 : decode cX10_row 60 = .ok (.aload_n 0, 1) := by decide +kernel
theorem dX10_row_61 : decode cX10_row 61 = .ok (.getfield 38, 3) := by decide +kernel
theorem dX10_row_64 : decode cX10_row 64 = .ok (.iconst 4, 1) := by decide +kernel
theorem dX10_row_65 : decode cX10_row 65 = .ok (.iload_n 1, 1) := by decide +kernel
theorem dX10_row_66 : decode cX10_row 66 = .ok (.imul, 1) := by decide +kernel
theorem dX10_row_67 : decode cX10_row 67 = .ok (.iload_n 2, 1) := by decide +kernel
theorem dX10_row_68 : decode cX10_row 68 = .ok (.iadd, 1) := by decide +kernel
theorem dX10_row_69 : decode cX10_row 69 = .ok (.iload_n 3, 1) := by decide +kernel
theorem dX10_row_70 : decode cX10_row 70 = .ok (.iastore, 1) := by decide +kernel
theorem dX10_row_71 : decode cX10_row 71 = .ok (.iload 4, 2) := by decide +kernel
theorem dX10_row_73 : decode cX10_row 73 = .ok (.ireturn, 1) := by decide +kernel
theorem dX10_feed_0 : decode cX10_feed 0 = .ok (.aload_n 0, 1) := by decide +kernel
theorem dX10_feed_1 : decode cX10_feed 1 = .ok (.iload_n 1, 1) := by decide +kernel
theorem dX10_feed_2 : decode cX10_feed 2 = .ok (.iconst 0, 1) := by decide +kernel
theorem dX10_feed_3 : decode cX10_feed 3 = .ok (.bipush 127, 2) := by decide +kernel
theorem dX10_feed_5 : decode cX10_feed 5 = .ok (.invokevirtual 253, 3) := by decide +kernel
theorem dX10_feed_8 : decode cX10_feed 8 = .ok (.ifCond .ne 6, 3) := by decide +kernel
theorem dX10_feed_11 : decode cX10_feed 11 = .ok (.bipush (-2), 2) := by decide +kernel
theorem dX10_feed_13 : decode cX10_feed 13 = .ok (.ireturn, 1) := by decide +kernel
theorem dX10_feed_14 : decode cX10_feed 14 = .ok (.aload_n 0, 1) := by decide +kernel
theorem dX10_feed_15 : decode cX10_feed 15 = .ok (.getfield 47, 3) := by decide +kernel
theorem dX10_feed_18 : decode cX10_feed 18 = .ok (.bipush 100, 2) := by decide +kernel
theorem dX10_feed_20 : decode cX10_feed 20 = .ok (.if_icmp .ne 6, 3) := by decide +kernel
theorem dX10_feed_23 : decode cX10_feed 23 = .ok (.bipush (-4), 2) := by decide +kernel
theorem dX10_feed_25 : decode cX10_feed 25 = .ok (.ireturn, 1) := by decide +kernel
theorem dX10_feed_26 : decode cX10_feed 26 = .ok (.aload_n 0, 1) := by decide +kernel
theorem dX10_feed_27 : decode cX10_feed 27 = .ok (.getfield 56, 3) := by decide +kernel
theorem dX10_feed_30 : decode cX10_feed 30 = .ok (.aload_n 0, 1) := by decide +kernel
theorem dX10_feed_31 : decode cX10_feed 31 = .ok (.getfield 47, 3) := by decide +kernel
theorem dX10_feed_34 : decode cX10_feed 34 = .ok (.iload_n 1, 1) := by decide +kernel
theorem dX10_feed_35 : decode cX10_feed 35 = .ok (.iastore, 1) := by decide +kernel
theorem dX10_feed_36 : decode cX10_feed 36 = .ok (.aload_n 0, 1) := by decide +kernel
theorem dX10_feed_37 : decode cX10_feed 37 = .ok (.dup, 1) := by decide +kernel
theorem dX10_feed_38 : decode cX10_feed 38 = .ok (.getfield 47, 3) := by decide +kernel
theorem dX10_feed_41 : decode cX10_feed 41 = .ok (.iconst 1, 1) := by decide +kernel
theorem dX10_feed_42 : decode cX10_feed 42 = .ok (.iadd, 1) := by decide +kernel
theorem dX10_feed_43 : decode cX10_feed 43 = .ok (.putfield 47, 3) := by decide +kernel
theorem dX10_feed_46 : decode cX10_feed 46 = .ok (.aload_n 0, 1) := by decide +kernel
theorem dX10_feed_47 : decode cX10_feed 47 = .ok (.getfield 47, 3) := by decide +kernel
theorem dX10_feed_50 : decode cX10_feed 50 = .ok (.ireturn, 1) := by decide +kernel
theorem dX10_next_0 : decode cX10_next 0 = .ok (.aload_n 0, 1) := by decide +kernel
theorem dX10_next_1 : decode cX10_next 1 = .ok (.getfield 50, 3) := by decide +kernel
theorem dX10_next_4 : decode cX10_next 4 = .ok (.aload_n 0, 1) := by decide +kernel
theorem dX10_next_5 : decode cX10_next 5 = .ok (.getfield 47, 3) := by decide +kernel
theorem dX10_next_8 : decode cX10_next 8 = .ok (.if_icmp .ge 15, 3) := by decide +kernel
theorem dX10_next_11 : decode cX10_next 11 = .ok (.aload_n 0, 1) := by decide +kernel
theorem dX10_next_12 : decode cX10_next 12 = .ok (.getfield 56, 3) := by decide +kernel
theorem dX10_next_15 : decode cX10_next 15 = .ok (.aload_n 0, 1) := by decide +kernel
theorem dX10_next_16 : decode cX10_next 16 = .ok (.getfield 50, 3) := by decide +kernel
theorem dX10_next_19 : decode cX10_next 19 = .ok (.iaload, 1) := by decide +kernel
theorem dX10_next_20 : decode cX10_next 20 = .ok (.goto 4, 3) := by decide +kernel
theorem dX10_next_23 : decode cX10_next 23 = .ok (.iconst (-1), 1) := by decide +kernel
theorem dX10_next_24 : decode cX10_next 24 = .ok (.ireturn, 1) := by decide +kernel
theorem dX10_takes_0 : decode cX10_takes 0 = .ok (.aload_n 0, 1) := by decide +kernel
theorem dX10_takes_1 : decode cX10_takes 1 = .ok (.invokevirtual 271, 3) := by decide +kernel
theorem dX10_takes_4 : decode cX10_takes 4 = .ok (.iload_n 1, 1) := by decide +kernel
theorem dX10_takes_5 : decode cX10_takes 5 = .ok (.if_icmp .eq 5, 3) := by decide +kernel
theorem dX10_takes_8 : decode cX10_takes 8 = .ok (.iconst 0, 1) := by decide +kernel
theorem dX10_takes_9 : decode cX10_takes 9 = .ok (.ireturn, 1) := by decide +kernel
theorem dX10_takes_10 : decode cX10_takes 10 = .ok (.aload_n 0, 1) := by decide +kernel
theorem dX10_takes_11 : decode cX10_takes 11 = .ok (.dup, 1) := by decide +kernel
theorem dX10_takes_12 : decode cX10_takes 12 = .ok (.getfield 50, 3) := by decide +kernel
theorem dX10_takes_15 : decode cX10_takes 15 = .ok (.iconst 1, 1) := by decide +kernel
theorem dX10_takes_16 : decode cX10_takes 16 = .ok (.iadd, 1) := by decide +kernel
theorem dX10_takes_17 : decode cX10_takes 17 = .ok (.putfield 50, 3) := by decide +kernel
theorem dX10_takes_20 : decode cX10_takes 20 = .ok (.iconst 1, 1) := by decide +kernel
theorem dX10_takes_21 : decode cX10_takes 21 = .ok (.ireturn, 1) := by decide +kernel
theorem dX10_takesWord_0 : decode cX10_takesWord 0 = .ok (.iconst 0, 1) := by decide +kernel
theorem dX10_takesWord_1 : decode cX10_takesWord 1 = .ok (.istore_n 3, 1) := by decide +kernel
theorem dX10_takesWord_2 : decode cX10_takesWord 2 = .ok (.iload_n 3, 1) := by decide +kernel
theorem dX10_takesWord_3 : decode cX10_takesWord 3 = .ok (.iload_n 2, 1) := by decide +kernel
theorem dX10_takesWord_4 : decode cX10_takesWord 4 = .ok (.if_icmp .ge 26, 3) := by decide +kernel
theorem dX10_takesWord_7 : decode cX10_takesWord 7 = .ok (.aload_n 0, 1) := by decide +kernel
theorem dX10_takesWord_8 : decode cX10_takesWord 8 = .ok (.aload_n 0, 1) := by decide +kernel
theorem dX10_takesWord_9 : decode cX10_takesWord 9 = .ok (.getfield 89, 3) := by decide +kernel
theorem dX10_takesWord_12 : decode cX10_takesWord 12 = .ok (.iload_n 1, 1) := by decide +kernel
theorem dX10_takesWord_13 : decode cX10_takesWord 13 = .ok (.iload_n 3, 1) := by decide +kernel
theorem dX10_takesWord_14 : decode cX10_takesWord 14 = .ok (.iadd, 1) := by decide +kernel
theorem dX10_takesWord_15 : decode cX10_takesWord 15 = .ok (.iaload, 1) := by decide +kernel
theorem dX10_takesWord_16 : decode cX10_takesWord 16 = .ok (.invokevirtual 275, 3) := by decide +kernel
theorem dX10_takesWord_19 : decode cX10_takesWord 19 = .ok (.ifCond .ne 5, 3) := by decide +kernel
theorem dX10_takesWord_22 : decode cX10_takesWord 22 = .ok (.iconst 0, 1) := by decide +kernel
theorem dX10_takesWord_23 : decode cX10_takesWord 23 = .ok (.ireturn, 1) := by decide +kernel
theorem dX10_takesWord_24 : decode cX10_takesWord 24 = .ok (.iinc 3 1, 3) := by decide +kernel
theorem dX10_takesWord_27 : decode cX10_takesWord 27 = .ok (.goto (-25), 3) := by decide +kernel
theorem dX10_takesWord_30 : decode cX10_takesWord 30 = .ok (.aload_n 0, 1) := by decide +kernel
theorem dX10_takesWord_31 : decode cX10_takesWord 31 = .ok (.bipush 32, 2) := by decide +kernel
theorem dX10_takesWord_33 : decode cX10_takesWord 33 = .ok (.invokevirtual 275, 3) := by decide +kernel
theorem dX10_takesWord_36 : decode cX10_takesWord 36 = .ok (.ireturn, 1) := by decide +kernel
theorem dX10_isDigit_0 : decode cX10_isDigit 0 = .ok (.aload_n 0, 1) := by decide +kernel
theorem dX10_isDigit_1 : decode cX10_isDigit 1 = .ok (.aload_n 0, 1) := by decide +kernel
theorem dX10_isDigit_2 : decode cX10_isDigit 2 = .ok (.invokevirtual 271, 3) := by decide +kernel
theorem dX10_isDigit_5 : decode cX10_isDigit 5 = .ok (.bipush 48, 2) := by decide +kernel
theorem dX10_isDigit_7 : decode cX10_isDigit 7 = .ok (.bipush 57, 2) := by decide +kernel
theorem dX10_isDigit_9 : decode cX10_isDigit 9 = .ok (.invokevirtual 253, 3) := by decide +kernel
theorem dX10_isDigit_12 : decode cX10_isDigit 12 = .ok (.ireturn, 1) := by decide +kernel
theorem dX10_takesNumber_0 : decode cX10_takesNumber 0 = .ok (.aload_n 0, 1) := by decide +kernel
theorem dX10_takesNumber_1 : decode cX10_takesNumber 1 = .ok (.invokevirtual 278, 3) := by decide +kernel
theorem dX10_takesNumber_4 : decode cX10_takesNumber 4 = .ok (.ifCond .ne 5, 3) := by decide +kernel
theorem dX10_takesNumber_7 : decode cX10_takesNumber 7 = .ok (.iconst 0, 1) := by decide +kernel
theorem dX10_takesNumber_8 : decode cX10_takesNumber 8 = .ok (.ireturn, 1) := by decide +kernel
theorem dX10_takesNumber_9 : decode cX10_takesNumber 9 = .ok (.aload_n 0, 1) := by decide +kernel
theorem dX10_takesNumber_10 : decode cX10_takesNumber 10 = .ok (.iconst 0, 1) := by decide +kernel
theorem dX10_takesNumber_11 : decode cX10_takesNumber 11 = .ok (.putfield 53, 3) := by decide +kernel
theorem dX10_takesNumber_14 : decode cX10_takesNumber 14 = .ok (.iconst 0, 1) := by decide +kernel
theorem dX10_takesNumber_15 : decode cX10_takesNumber 15 = .ok (.istore_n 1, 1) := by decide +kernel
theorem dX10_takesNumber_16 : decode cX10_takesNumber 16 = .ok (.iload_n 1, 1) := by decide +kernel
theorem dX10_takesNumber_17 : decode cX10_takesNumber 17 = .ok (.iconst 2, 1) := by decide +kernel
theorem dX10_takesNumber_18 : decode cX10_takesNumber 18 = .ok (.if_icmp .ge 45, 3) := by decide +kernel
theorem dX10_takesNumber_21 : decode cX10_takesNumber 21 = .ok (.aload_n 0, 1) := by decide +kernel
theorem dX10_takesNumber_22 : decode cX10_takesNumber 22 = .ok (.invokevirtual 278, 3) := by decide +kernel
theorem dX10_takesNumber_25 : decode cX10_takesNumber 25 = .ok (.ifCond .eq 38, 3) := by decide +kernel
theorem dX10_takesNumber_28 : decode cX10_takesNumber 28 = .ok (.aload_n 0, 1) := by decide +kernel
theorem dX10_takesNumber_29 : decode cX10_takesNumber 29 = .ok (.bipush 10, 2) := by decide +kernel
theorem dX10_takesNumber_31 : decode cX10_takesNumber 31 = .ok (.aload_n 0, 1) := by decide +kernel
theorem dX10_takesNumber_32 : decode cX10_takesNumber 32 = .ok (.getfield 53, 3) := by decide +kernel
theorem dX10_takesNumber_35 : decode cX10_takesNumber 35 = .ok (.imul, 1) := by decide +kernel
theorem dX10_takesNumber_36 : decode cX10_takesNumber 36 = .ok (.aload_n 0, 1) := by decide +kernel
theorem dX10_takesNumber_37 : decode cX10_takesNumber 37 = .ok (.invokevirtual 271, 3) := by decide +kernel
theorem dX10_takesNumber_40 : decode cX10_takesNumber 40 = .ok (.iadd, 1) := by decide +kernel
theorem dX10_takesNumber_41 : decode cX10_takesNumber 41 = .ok (.bipush 48, 2) := by decide +kernel
theorem dX10_takesNumber_43 : decode cX10_takesNumber 43 = .ok (.isub, 1) := by decide +kernel
theorem dX10_takesNumber_44 : decode cX10_takesNumber 44 = .ok (.putfield 53, 3) := by decide +kernel
theorem dX10_takesNumber_47 : decode cX10_takesNumber 47 = .ok (.aload_n 0, 1) := by decide +kernel
theorem dX10_takesNumber_48 : decode cX10_takesNumber 48 = .ok (.dup, 1) := by decide +kernel
theorem dX10_takesNumber_49 : decode cX10_takesNumber 49 = .ok (.getfield 50, 3) := by decide +kernel
theorem dX10_takesNumber_52 : decode cX10_takesNumber 52 = .ok (.iconst 1, 1) := by decide +kernel
theorem dX10_takesNumber_53 : decode cX10_takesNumber 53 = .ok (.iadd, 1) := by decide +kernel
theorem dX10_takesNumber_54 : decode cX10_takesNumber 54 = .ok (.putfield 50, 3) := by decide +kernel
theorem dX10_takesNumber_57 : decode cX10_takesNumber 57 = .ok (.iinc 1 1, 3) := by decide +kernel
theorem dX10_takesNumber_60 : decode cX10_takesNumber 60 = .ok (.goto (-44), 3) := by decide +kernel
theorem dX10_takesNumber_63 : decode cX10_takesNumber 63 = .ok (.iconst 1, 1) := by decide +kernel
theorem dX10_takesNumber_64 : decode cX10_takesNumber 64 = .ok (.ireturn, 1) := by decide +kernel
theorem dX10_emits_0 : decode cX10_emits 0 = .ok (.aload_n 0, 1) := by decide +kernel
theorem dX10_emits_1 : decode cX10_emits 1 = .ok (.getfield 74, 3) := by decide +kernel
theorem dX10_emits_4 : decode cX10_emits 4 = .ok (.aload_n 0, 1) := by decide +kernel
theorem dX10_emits_5 : decode cX10_emits 5 = .ok (.getfield 80, 3) := by decide +kernel
theorem dX10_emits_8 : decode cX10_emits 8 = .ok (.iload_n 1, 1) := by decide +kernel
theorem dX10_emits_9 : decode cX10_emits 9 = .ok (.iastore, 1) := by decide +kernel
theorem dX10_emits_10 : decode cX10_emits 10 = .ok (.aload_n 0, 1) := by decide +kernel
theorem dX10_emits_11 : decode cX10_emits 11 = .ok (.dup, 1) := by decide +kernel
theorem dX10_emits_12 : decode cX10_emits 12 = .ok (.getfield 80, 3) := by decide +kernel
theorem dX10_emits_15 : decode cX10_emits 15 = .ok (.iconst 1, 1) := by decide +kernel
theorem dX10_emits_16 : decode cX10_emits 16 = .ok (.iadd, 1) := by decide +kernel
theorem dX10_emits_17 : decode cX10_emits 17 = .ok (.putfield 80, 3) := by decide +kernel
theorem dX10_emits_20 : decode cX10_emits 20 = .ok (.return_, 1) := by decide +kernel
theorem dX10_whole_0 : decode cX10_whole 0 = .ok (.aload_n 0, 1) := by decide +kernel
theorem dX10_whole_1 : decode cX10_whole 1 = .ok (.getfield 83, 3) := by decide +kernel
theorem dX10_whole_4 : decode cX10_whole 4 = .ok (.ifCond .le 48, 3) := by decide +kernel
theorem dX10_whole_7 : decode cX10_whole 7 = .ok (.aload_n 0, 1) := by decide +kernel
theorem dX10_whole_8 : decode cX10_whole 8 = .ok (.getfield 77, 3) := by decide +kernel
theorem dX10_whole_11 : decode cX10_whole 11 = .ok (.aload_n 0, 1) := by decide +kernel
theorem dX10_whole_12 : decode cX10_whole 12 = .ok (.getfield 83, 3) := by decide +kernel
theorem dX10_whole_15 : decode cX10_whole 15 = .ok (.iconst 1, 1) := by decide +kernel
theorem dX10_whole_16 : decode cX10_whole 16 = .ok (.isub, 1) := by decide +kernel
theorem dX10_whole_17 : decode cX10_whole 17 = .ok (.iaload, 1) := by decide +kernel
theorem dX10_whole_18 : decode cX10_whole 18 = .ok (.bipush 33, 2) := by decide +kernel
theorem dX10_whole_20 : decode cX10_whole 20 = .ok (.if_icmp .ne 32, 3) := by decide +kernel
theorem dX10_whole_23 : decode cX10_whole 23 = .ok (.aload_n 0, 1) := by decide +kernel
theorem dX10_whole_24 : decode cX10_whole 24 = .ok (.bipush (-33), 2) := by decide +kernel
theorem dX10_whole_26 : decode cX10_whole 26 = .ok (.invokevirtual 282, 3) := by decide +kernel
theorem dX10_whole_29 : decode cX10_whole 29 = .ok (.aload_n 0, 1) := by decide +kernel
theorem dX10_whole_30 : decode cX10_whole 30 = .ok (.dup, 1) := by decide +kernel
theorem dX10_whole_31 : decode cX10_whole 31 = .ok (.getfield 83, 3) := by decide +kernel
theorem dX10_whole_34 : decode cX10_whole 34 = .ok (.iconst 1, 1) := by decide +kernel
theorem dX10_whole_35 : decode cX10_whole 35 = .ok (.isub, 1) := by decide +kernel
theorem dX10_whole_36 : decode cX10_whole 36 = .ok (.putfield 83, 3) := by decide +kernel
theorem dX10_whole_39 : decode cX10_whole 39 = .ok (.aload_n 0, 1) := by decide +kernel
theorem dX10_whole_40 : decode cX10_whole 40 = .ok (.dup, 1) := by decide +kernel
theorem dX10_whole_41 : decode cX10_whole 41 = .ok (.getfield 86, 3) := by decide +kernel
theorem dX10_whole_44 : decode cX10_whole 44 = .ok (.iconst 1, 1) := by decide +kernel
theorem dX10_whole_45 : decode cX10_whole 45 = .ok (.isub, 1) := by decide +kernel
theorem dX10_whole_46 : decode cX10_whole 46 = .ok (.putfield 86, 3) := by decide +kernel
theorem dX10_whole_49 : decode cX10_whole 49 = .ok (.goto (-49), 3) := by decide +kernel
theorem dX10_whole_52 : decode cX10_whole 52 = .ok (.return_, 1) := by decide +kernel
theorem dX10_settle_0 : decode cX10_settle 0 = .ok (.aload_n 0, 1) := by decide +kernel
theorem dX10_settle_1 : decode cX10_settle 1 = .ok (.getfield 83, 3) := by decide +kernel
theorem dX10_settle_4 : decode cX10_settle 4 = .ok (.ifCond .le 68, 3) := by decide +kernel
theorem dX10_settle_7 : decode cX10_settle 7 = .ok (.aload_n 0, 1) := by decide +kernel
theorem dX10_settle_8 : decode cX10_settle 8 = .ok (.getfield 77, 3) := by decide +kernel
theorem dX10_settle_11 : decode cX10_settle 11 = .ok (.aload_n 0, 1) := by decide +kernel
theorem dX10_settle_12 : decode cX10_settle 12 = .ok (.getfield 83, 3) := by decide +kernel
theorem dX10_settle_15 : decode cX10_settle 15 = .ok (.iconst 1, 1) := by decide +kernel
theorem dX10_settle_16 : decode cX10_settle 16 = .ok (.isub, 1) := by decide +kernel
theorem dX10_settle_17 : decode cX10_settle 17 = .ok (.iaload, 1) := by decide +kernel
theorem dX10_settle_18 : decode cX10_settle 18 = .ok (.bipush 38, 2) := by decide +kernel
theorem dX10_settle_20 : decode cX10_settle 20 = .ok (.if_icmp .eq 25, 3) := by decide +kernel
theorem dX10_settle_23 : decode cX10_settle 23 = .ok (.aload_n 0, 1) := by decide +kernel
theorem dX10_settle_24 : decode cX10_settle 24 = .ok (.getfield 77, 3) := by decide +kernel
theorem dX10_settle_27 : decode cX10_settle 27 = .ok (.aload_n 0, 1) := by decide +kernel
theorem dX10_settle_28 : decode cX10_settle 28 = .ok (.getfield 83, 3) := by decide +kernel
theorem dX10_settle_31 : decode cX10_settle 31 = .ok (.iconst 1, 1) := by decide +kernel
theorem dX10_settle_32 : decode cX10_settle 32 = .ok (.isub, 1) := by decide +kernel
theorem dX10_settle_33 : decode cX10_settle 33 = .ok (.iaload, 1) := by decide +kernel
theorem dX10_settle_34 : decode cX10_settle 34 = .ok (.bipush 124, 2) := by decide +kernel
theorem dX10_settle_36 : decode cX10_settle 36 = .ok (.if_icmp .ne 36, 3) := by decide +kernel
theorem dX10_settle_39 : decode cX10_settle 39 = .ok (.iload_n 1, 1) := by decide +kernel
theorem dX10_settle_40 : decode cX10_settle 40 = .ok (.bipush 38, 2) := by decide +kernel
theorem dX10_settle_42 : decode cX10_settle 42 = .ok (.if_icmp .eq 30, 3) := by decide +kernel
theorem dX10_settle_45 : decode cX10_settle 45 = .ok (.aload_n 0, 1) := by decide +kernel
theorem dX10_settle_46 : decode cX10_settle 46 = .ok (.dup, 1) := by decide +kernel
theorem dX10_settle_47 : decode cX10_settle 47 = .ok (.getfield 83, 3) := by decide +kernel
theorem dX10_settle_50 : decode cX10_settle 50 = .ok (.iconst 1, 1) := by decide +kernel
theorem dX10_settle_51 : decode cX10_settle 51 = .ok (.isub, 1) := by decide +kernel
theorem dX10_settle_52 : decode cX10_settle 52 = .ok (.putfield 83, 3) := by decide +kernel
theorem dX10_settle_55 : decode cX10_settle 55 = .ok (.aload_n 0, 1) := by decide +kernel
theorem dX10_settle_56 : decode cX10_settle 56 = .ok (.aload_n 0, 1) := by decide +kernel
theorem dX10_settle_57 : decode cX10_settle 57 = .ok (.getfield 77, 3) := by decide +kernel
theorem dX10_settle_60 : decode cX10_settle 60 = .ok (.aload_n 0, 1) := by decide +kernel
theorem dX10_settle_61 : decode cX10_settle 61 = .ok (.getfield 83, 3) := by decide +kernel
theorem dX10_settle_64 : decode cX10_settle 64 = .ok (.iaload, 1) := by decide +kernel
theorem dX10_settle_65 : decode cX10_settle 65 = .ok (.ineg, 1) := by decide +kernel
theorem dX10_settle_66 : decode cX10_settle 66 = .ok (.invokevirtual 282, 3) := by decide +kernel
theorem dX10_settle_69 : decode cX10_settle 69 = .ok (.goto (-69), 3) := by decide +kernel
theorem dX10_settle_72 : decode cX10_settle 72 = .ok (.return_, 1) := by decide +kernel
theorem dX10_place_0 : decode cX10_place 0 = .ok (.iload_n 1, 1) := by decide +kernel
theorem dX10_place_1 : decode cX10_place 1 = .ok (.lookupswitch 71 #[(99, 59), (103, 65), (107, 67), (114, 61), (118, 69), (120, 63)], 59) := by decide +kernel
theorem dX10_place_60 : decode cX10_place 60 = .ok (.iconst 0, 1) := by decide +kernel
theorem dX10_place_61 : decode cX10_place 61 = .ok (.ireturn, 1) := by decide +kernel
theorem dX10_place_62 : decode cX10_place 62 = .ok (.iconst 1, 1) := by decide +kernel
theorem dX10_place_63 : decode cX10_place 63 = .ok (.ireturn, 1) := by decide +kernel
theorem dX10_place_64 : decode cX10_place 64 = .ok (.iconst 2, 1) := by decide +kernel
theorem dX10_place_65 : decode cX10_place 65 = .ok (.ireturn, 1) := by decide +kernel
theorem dX10_place_66 : decode cX10_place 66 = .ok (.iconst 3, 1) := by decide +kernel
theorem dX10_place_67 : decode cX10_place 67 = .ok (.ireturn, 1) := by decide +kernel
theorem dX10_place_68 : decode cX10_place 68 = .ok (.iconst 4, 1) := by decide +kernel
theorem dX10_place_69 : decode cX10_place 69 = .ok (.ireturn, 1) := by decide +kernel
theorem dX10_place_70 : decode cX10_place 70 = .ok (.iconst 5, 1) := by decide +kernel
theorem dX10_place_71 : decode cX10_place 71 = .ok (.ireturn, 1) := by decide +kernel
theorem dX10_place_72 : decode cX10_place 72 = .ok (.iconst (-1), 1) := by decide +kernel
theorem dX10_place_73 : decode cX10_place 73 = .ok (.ireturn, 1) := by decide +kernel
theorem dX10_takesTest_0 : decode cX10_takesTest 0 = .ok (.aload_n 0, 1) := by decide +kernel
theorem dX10_takesTest_1 : decode cX10_takesTest 1 = .ok (.aload_n 0, 1) := by decide +kernel
theorem dX10_takesTest_2 : decode cX10_takesTest 2 = .ok (.invokevirtual 271, 3) := by decide +kernel
theorem dX10_takesTest_5 : decode cX10_takesTest 5 = .ok (.invokevirtual 286, 3) := by decide +kernel
theorem dX10_takesTest_8 : decode cX10_takesTest 8 = .ok (.istore_n 1, 1) := by decide +kernel
theorem dX10_takesTest_9 : decode cX10_takesTest 9 = .ok (.iload_n 1, 1) := by decide +kernel
theorem dX10_takesTest_10 : decode cX10_takesTest 10 = .ok (.ifCond .ge 5, 3) := by decide +kernel
theorem dX10_takesTest_13 : decode cX10_takesTest 13 = .ok (.iconst 0, 1) := by decide +kernel
theorem dX10_takesTest_14 : decode cX10_takesTest 14 = .ok (.ireturn, 1) := by decide +kernel
theorem dX10_takesTest_15 : decode cX10_takesTest 15 = .ok (.aload_n 0, 1) := by decide +kernel
theorem dX10_takesTest_16 : decode cX10_takesTest 16 = .ok (.dup, 1) := by decide +kernel
theorem dX10_takesTest_17 : decode cX10_takesTest 17 = .ok (.getfield 50, 3) := by decide +kernel
theorem dX10_takesTest_20 : decode cX10_takesTest 20 = .ok (.iconst 1, 1) := by decide +kernel
theorem dX10_takesTest_21 : decode cX10_takesTest 21 = .ok (.iadd, 1) := by decide +kernel
theorem dX10_takesTest_22 : decode cX10_takesTest 22 = .ok (.putfield 50, 3) := by decide +kernel
theorem dX10_takesTest_25 : decode cX10_takesTest 25 = .ok (.aload_n 0, 1) := by decide +kernel
theorem dX10_takesTest_26 : decode cX10_takesTest 26 = .ok (.invokevirtual 271, 3) := by decide +kernel
theorem dX10_takesTest_29 : decode cX10_takesTest 29 = .ok (.istore_n 2, 1) := by decide +kernel
theorem dX10_takesTest_30 : decode cX10_takesTest 30 = .ok (.aload_n 0, 1) := by decide +kernel
theorem dX10_takesTest_31 : decode cX10_takesTest 31 = .ok (.iload_n 2, 1) := by decide +kernel
theorem dX10_takesTest_32 : decode cX10_takesTest 32 = .ok (.bipush 60, 2) := by decide +kernel
theorem dX10_takesTest_34 : decode cX10_takesTest 34 = .ok (.bipush 62, 2) := by decide +kernel
theorem dX10_takesTest_36 : decode cX10_takesTest 36 = .ok (.invokevirtual 253, 3) := by decide +kernel
theorem dX10_takesTest_39 : decode cX10_takesTest 39 = .ok (.ifCond .ne 5, 3) := by decide +kernel
theorem dX10_takesTest_42 : decode cX10_takesTest 42 = .ok (.iconst 0, 1) := by decide +kernel
theorem dX10_takesTest_43 : decode cX10_takesTest 43 = .ok (.ireturn, 1) := by decide +kernel
theorem dX10_takesTest_44 : decode cX10_takesTest 44 = .ok (.aload_n 0, 1) := by decide +kernel
theorem dX10_takesTest_45 : decode cX10_takesTest 45 = .ok (.dup, 1) := by decide +kernel
theorem dX10_takesTest_46 : decode cX10_takesTest 46 = .ok (.getfield 50, 3) := by decide +kernel
theorem dX10_takesTest_49 : decode cX10_takesTest 49 = .ok (.iconst 1, 1) := by decide +kernel
theorem dX10_takesTest_50 : decode cX10_takesTest 50 = .ok (.iadd, 1) := by decide +kernel
theorem dX10_takesTest_51 : decode cX10_takesTest 51 = .ok (.putfield 50, 3) := by decide +kernel
theorem dX10_takesTest_54 : decode cX10_takesTest 54 = .ok (.aload_n 0, 1) := by decide +kernel
theorem dX10_takesTest_55 : decode cX10_takesTest 55 = .ok (.invokevirtual 290, 3) := by decide +kernel
theorem dX10_takesTest_58 : decode cX10_takesTest 58 = .ok (.ifCond .ne 5, 3) := by decide +kernel
theorem dX10_takesTest_61 : decode cX10_takesTest 61 = .ok (.iconst 0, 1) := by decide +kernel
theorem dX10_takesTest_62 : decode cX10_takesTest 62 = .ok (.ireturn, 1) := by decide +kernel
theorem dX10_takesTest_63 : decode cX10_takesTest 63 = .ok (.aload_n 0, 1) := by decide +kernel
theorem dX10_takesTest_64 : decode cX10_takesTest 64 = .ok (.sipush 1000, 3) := by decide +kernel
theorem dX10_takesTest_67 : decode cX10_takesTest 67 = .ok (.iload_n 1, 1) := by decide +kernel
theorem dX10_takesTest_68 : decode cX10_takesTest 68 = .ok (.imul, 1) := by decide +kernel
theorem dX10_takesTest_69 : decode cX10_takesTest 69 = .ok (.bipush 100, 2) := by decide +kernel
theorem dX10_takesTest_71 : decode cX10_takesTest 71 = .ok (.iload_n 2, 1) := by decide +kernel
theorem dX10_takesTest_72 : decode cX10_takesTest 72 = .ok (.bipush 60, 2) := by decide +kernel
theorem dX10_takesTest_74 : decode cX10_takesTest 74 = .ok (.isub, 1) := by decide +kernel
theorem dX10_takesTest_75 : decode cX10_takesTest 75 = .ok (.imul, 1) := by decide +kernel
theorem dX10_takesTest_76 : decode cX10_takesTest 76 = .ok (.iadd, 1) := by decide +kernel
theorem dX10_takesTest_77 : decode cX10_takesTest 77 = .ok (.aload_n 0, 1) := by decide +kernel
theorem dX10_takesTest_78 : decode cX10_takesTest 78 = .ok (.getfield 53, 3) := by decide +kernel
theorem dX10_takesTest_81 : decode cX10_takesTest 81 = .ok (.iadd, 1) := by decide +kernel
theorem dX10_takesTest_82 : decode cX10_takesTest 82 = .ok (.invokevirtual 282, 3) := by decide +kernel
theorem dX10_takesTest_85 : decode cX10_takesTest 85 = .ok (.aload_n 0, 1) := by decide +kernel
theorem dX10_takesTest_86 : decode cX10_takesTest 86 = .ok (.invokevirtual 293, 3) := by decide +kernel
theorem dX10_takesTest_89 : decode cX10_takesTest 89 = .ok (.iconst 1, 1) := by decide +kernel
theorem dX10_takesTest_90 : decode cX10_takesTest 90 = .ok (.ireturn, 1) := by decide +kernel
theorem dX10_takesE_0 : decode cX10_takesE 0 = .ok (.aload_n 0, 1) := by decide +kernel
theorem dX10_takesE_1 : decode cX10_takesE 1 = .ok (.iconst 0, 1) := by decide +kernel
theorem dX10_takesE_2 : decode cX10_takesE 2 = .ok (.putfield 83, 3) := by decide +kernel
theorem dX10_takesE_5 : decode cX10_takesE 5 = .ok (.aload_n 0, 1) := by decide +kernel
theorem dX10_takesE_6 : decode cX10_takesE 6 = .ok (.iconst 0, 1) := by decide +kernel
theorem dX10_takesE_7 : decode cX10_takesE 7 = .ok (.putfield 86, 3) := by decide +kernel
theorem dX10_takesE_10 : decode cX10_takesE 10 = .ok (.aload_n 0, 1) := by decide +kernel
theorem dX10_takesE_11 : decode cX10_takesE 11 = .ok (.getfield 68, 3) := by decide +kernel
theorem dX10_takesE_14 : decode cX10_takesE 14 = .ok (.iload_n 1, 1) := by decide +kernel
theorem dX10_takesE_15 : decode cX10_takesE 15 = .ok (.aload_n 0, 1) := by decide +kernel
theorem dX10_takesE_16 : decode cX10_takesE 16 = .ok (.getfield 80, 3) := by decide +kernel
theorem dX10_takesE_19 : decode cX10_takesE 19 = .ok (.iastore, 1) := by decide +kernel
theorem dX10_takesE_20 : decode cX10_takesE 20 = .ok (.iconst 1, 1) := by decide +kernel
theorem dX10_takesE_21 : decode cX10_takesE 21 = .ok (.istore_n 2, 1) := by decide +kernel
theorem dX10_takesE_22 : decode cX10_takesE 22 = .ok (.aload_n 0, 1) := by decide +kernel
theorem dX10_takesE_23 : decode cX10_takesE 23 = .ok (.invokevirtual 271, 3) := by decide +kernel
theorem dX10_takesE_26 : decode cX10_takesE 26 = .ok (.istore_n 3, 1) := by decide +kernel
theorem dX10_takesE_27 : decode cX10_takesE 27 = .ok (.iload_n 2, 1) := by decide +kernel
theorem dX10_takesE_28 : decode cX10_takesE 28 = .ok (.ifCond .eq 82, 3) := by decide +kernel
theorem dX10_takesE_31 : decode cX10_takesE 31 = .ok (.iload_n 3, 1) := by decide +kernel
theorem dX10_takesE_32 : decode cX10_takesE 32 = .ok (.bipush 33, 2) := by decide +kernel
theorem dX10_takesE_34 : decode cX10_takesE 34 = .ok (.if_icmp .eq 9, 3) := by decide +kernel
theorem dX10_takesE_37 : decode cX10_takesE 37 = .ok (.iload_n 3, 1) := by decide +kernel
theorem dX10_takesE_38 : decode cX10_takesE 38 = .ok (.bipush 40, 2) := by decide +kernel
theorem dX10_takesE_40 : decode cX10_takesE 40 = .ok (.if_icmp .ne 56, 3) := by decide +kernel
theorem dX10_takesE_43 : decode cX10_takesE 43 = .ok (.aload_n 0, 1) := by decide +kernel
theorem dX10_takesE_44 : decode cX10_takesE 44 = .ok (.getfield 86, 3) := by decide +kernel
theorem dX10_takesE_47 : decode cX10_takesE 47 = .ok (.iconst 4, 1) := by decide +kernel
theorem dX10_takesE_48 : decode cX10_takesE 48 = .ok (.if_icmp .ne 5, 3) := by decide +kernel
theorem dX10_takesE_51 : decode cX10_takesE 51 = .ok (.iconst 0, 1) := by decide +kernel
theorem dX10_takesE_52 : decode cX10_takesE 52 = .ok (.ireturn, 1) := by decide +kernel
theorem dX10_takesE_53 : decode cX10_takesE 53 = .ok (.aload_n 0, 1) := by decide +kernel
theorem dX10_takesE_54 : decode cX10_takesE 54 = .ok (.dup, 1) := by decide +kernel
theorem dX10_takesE_55 : decode cX10_takesE 55 = .ok (.getfield 86, 3) := by decide +kernel
theorem dX10_takesE_58 : decode cX10_takesE 58 = .ok (.iconst 1, 1) := by decide +kernel
theorem dX10_takesE_59 : decode cX10_takesE 59 = .ok (.iadd, 1) := by decide +kernel
theorem dX10_takesE_60 : decode cX10_takesE 60 = .ok (.putfield 86, 3) := by decide +kernel
theorem dX10_takesE_63 : decode cX10_takesE 63 = .ok (.aload_n 0, 1) := by decide +kernel
theorem dX10_takesE_64 : decode cX10_takesE 64 = .ok (.getfield 77, 3) := by decide +kernel
theorem dX10_takesE_67 : decode cX10_takesE 67 = .ok (.aload_n 0, 1) := by decide +kernel
theorem dX10_takesE_68 : decode cX10_takesE 68 = .ok (.getfield 83, 3) := by decide +kernel
theorem dX10_takesE_71 : decode cX10_takesE 71 = .ok (.iload_n 3, 1) := by decide +kernel
theorem dX10_takesE_72 : decode cX10_takesE 72 = .ok (.iastore, 1) := by decide +kernel
theorem dX10_takesE_73 : decode cX10_takesE 73 = .ok (.aload_n 0, 1) := by decide +kernel
theorem dX10_takesE_74 : decode cX10_takesE 74 = .ok (.dup, 1) := by decide +kernel
theorem dX10_takesE_75 : decode cX10_takesE 75 = .ok (.getfield 83, 3) := by decide +kernel
theorem dX10_takesE_78 : decode cX10_takesE 78 = .ok (.iconst 1, 1) := by decide +kernel
theorem dX10_takesE_79 : decode cX10_takesE 79 = .ok (.iadd, 1) := by decide +kernel
theorem dX10_takesE_80 : decode cX10_takesE 80 = .ok (.putfield 83, 3) := by decide +kernel
theorem dX10_takesE_83 : decode cX10_takesE 83 = .ok (.aload_n 0, 1) := by decide +kernel
theorem dX10_takesE_84 : decode cX10_takesE 84 = .ok (.dup, 1) := by decide +kernel
theorem dX10_takesE_85 : decode cX10_takesE 85 = .ok (.getfield 50, 3) := by decide +kernel
theorem dX10_takesE_88 : decode cX10_takesE 88 = .ok (.iconst 1, 1) := by decide +kernel
theorem dX10_takesE_89 : decode cX10_takesE 89 = .ok (.iadd, 1) := by decide +kernel
theorem dX10_takesE_90 : decode cX10_takesE 90 = .ok (.putfield 50, 3) := by decide +kernel
theorem dX10_takesE_93 : decode cX10_takesE 93 = .ok (.goto (-71), 3) := by decide +kernel
theorem dX10_takesE_96 : decode cX10_takesE 96 = .ok (.aload_n 0, 1) := by decide +kernel
theorem dX10_takesE_97 : decode cX10_takesE 97 = .ok (.invokevirtual 296, 3) := by decide +kernel
theorem dX10_takesE_100 : decode cX10_takesE 100 = .ok (.ifCond .eq 8, 3) := by decide +kernel
theorem dX10_takesE_103 : decode cX10_takesE 103 = .ok (.iconst 0, 1) := by decide +kernel
theorem dX10_takesE_104 : decode cX10_takesE 104 = .ok (.istore_n 2, 1) := by decide +kernel
theorem dX10_takesE_105 : decode cX10_takesE 105 = .ok (.goto (-83), 3) := by decide +kernel
theorem dX10_takesE_108 : decode cX10_takesE 108 = .ok (.iconst 0, 1) := by decide +kernel
theorem dX10_takesE_109 : decode cX10_takesE 109 = .ok (.ireturn, 1) := by decide +kernel
theorem dX10_takesE_110 : decode cX10_takesE 110 = .ok (.iload_n 3, 1) := by decide +kernel
theorem dX10_takesE_111 : decode cX10_takesE 111 = .ok (.bipush 38, 2) := by decide +kernel
theorem dX10_takesE_113 : decode cX10_takesE 113 = .ok (.if_icmp .eq 9, 3) := by decide +kernel
theorem dX10_takesE_116 : decode cX10_takesE 116 = .ok (.iload_n 3, 1) := by decide +kernel
theorem dX10_takesE_117 : decode cX10_takesE 117 = .ok (.bipush 124, 2) := by decide +kernel
theorem dX10_takesE_119 : decode cX10_takesE 119 = .ok (.if_icmp .ne 43, 3) := by decide +kernel
theorem dX10_takesE_122 : decode cX10_takesE 122 = .ok (.aload_n 0, 1) := by decide +kernel
theorem dX10_takesE_123 : decode cX10_takesE 123 = .ok (.iload_n 3, 1) := by decide +kernel
theorem dX10_takesE_124 : decode cX10_takesE 124 = .ok (.invokevirtual 299, 3) := by decide +kernel
theorem dX10_takesE_127 : decode cX10_takesE 127 = .ok (.aload_n 0, 1) := by decide +kernel
theorem dX10_takesE_128 : decode cX10_takesE 128 = .ok (.getfield 77, 3) := by decide +kernel
theorem dX10_takesE_131 : decode cX10_takesE 131 = .ok (.aload_n 0, 1) := by decide +kernel
theorem dX10_takesE_132 : decode cX10_takesE 132 = .ok (.getfield 83, 3) := by decide +kernel
theorem dX10_takesE_135 : decode cX10_takesE 135 = .ok (.iload_n 3, 1) := by decide +kernel
theorem dX10_takesE_136 : decode cX10_takesE 136 = .ok (.iastore, 1) := by decide +kernel
theorem dX10_takesE_137 : decode cX10_takesE 137 = .ok (.aload_n 0, 1) := by decide +kernel
theorem dX10_takesE_138 : decode cX10_takesE 138 = .ok (.dup, 1) := by decide +kernel
theorem dX10_takesE_139 : decode cX10_takesE 139 = .ok (.getfield 83, 3) := by decide +kernel
theorem dX10_takesE_142 : decode cX10_takesE 142 = .ok (.iconst 1, 1) := by decide +kernel
theorem dX10_takesE_143 : decode cX10_takesE 143 = .ok (.iadd, 1) := by decide +kernel
theorem dX10_takesE_144 : decode cX10_takesE 144 = .ok (.putfield 83, 3) := by decide +kernel
theorem dX10_takesE_147 : decode cX10_takesE 147 = .ok (.iconst 1, 1) := by decide +kernel
theorem dX10_takesE_148 : decode cX10_takesE 148 = .ok (.istore_n 2, 1) := by decide +kernel
theorem dX10_takesE_149 : decode cX10_takesE 149 = .ok (.aload_n 0, 1) := by decide +kernel
theorem dX10_takesE_150 : decode cX10_takesE 150 = .ok (.dup, 1) := by decide +kernel
theorem dX10_takesE_151 : decode cX10_takesE 151 = .ok (.getfield 50, 3) := by decide +kernel
theorem dX10_takesE_154 : decode cX10_takesE 154 = .ok (.iconst 1, 1) := by decide +kernel
theorem dX10_takesE_155 : decode cX10_takesE 155 = .ok (.iadd, 1) := by decide +kernel
theorem dX10_takesE_156 : decode cX10_takesE 156 = .ok (.putfield 50, 3) := by decide +kernel
theorem dX10_takesE_159 : decode cX10_takesE 159 = .ok (.goto (-137), 3) := by decide +kernel
theorem dX10_takesE_162 : decode cX10_takesE 162 = .ok (.aload_n 0, 1) := by decide +kernel
theorem dX10_takesE_163 : decode cX10_takesE 163 = .ok (.bipush 124, 2) := by decide +kernel
theorem dX10_takesE_165 : decode cX10_takesE 165 = .ok (.invokevirtual 299, 3) := by decide +kernel
theorem dX10_takesE_168 : decode cX10_takesE 168 = .ok (.aload_n 0, 1) := by decide +kernel
theorem dX10_takesE_169 : decode cX10_takesE 169 = .ok (.getfield 71, 3) := by decide +kernel
theorem dX10_takesE_172 : decode cX10_takesE 172 = .ok (.iload_n 1, 1) := by decide +kernel
theorem dX10_takesE_173 : decode cX10_takesE 173 = .ok (.aload_n 0, 1) := by decide +kernel
theorem dX10_takesE_174 : decode cX10_takesE 174 = .ok (.getfield 80, 3) := by decide +kernel
theorem dX10_takesE_177 : decode cX10_takesE 177 = .ok (.iastore, 1) := by decide +kernel
theorem dX10_takesE_178 : decode cX10_takesE 178 = .ok (.aload_n 0, 1) := by decide +kernel
theorem dX10_takesE_179 : decode cX10_takesE 179 = .ok (.getfield 83, 3) := by decide +kernel
theorem dX10_takesE_182 : decode cX10_takesE 182 = .ok (.ifCond .ne 5, 3) := by decide +kernel
theorem dX10_takesE_185 : decode cX10_takesE 185 = .ok (.iconst 1, 1) := by decide +kernel
theorem dX10_takesE_186 : decode cX10_takesE 186 = .ok (.ireturn, 1) := by decide +kernel
theorem dX10_takesE_187 : decode cX10_takesE 187 = .ok (.iload_n 3, 1) := by decide +kernel
theorem dX10_takesE_188 : decode cX10_takesE 188 = .ok (.bipush 41, 2) := by decide +kernel
theorem dX10_takesE_190 : decode cX10_takesE 190 = .ok (.if_icmp .eq 5, 3) := by decide +kernel
theorem dX10_takesE_193 : decode cX10_takesE 193 = .ok (.iconst 0, 1) := by decide +kernel
theorem dX10_takesE_194 : decode cX10_takesE 194 = .ok (.ireturn, 1) := by decide +kernel
theorem dX10_takesE_195 : decode cX10_takesE 195 = .ok (.aload_n 0, 1) := by decide +kernel
theorem dX10_takesE_196 : decode cX10_takesE 196 = .ok (.dup, 1) := by decide +kernel
theorem dX10_takesE_197 : decode cX10_takesE 197 = .ok (.getfield 83, 3) := by decide +kernel
theorem dX10_takesE_200 : decode cX10_takesE 200 = .ok (.iconst 1, 1) := by decide +kernel
theorem dX10_takesE_201 : decode cX10_takesE 201 = .ok (.isub, 1) := by decide +kernel
theorem dX10_takesE_202 : decode cX10_takesE 202 = .ok (.putfield 83, 3) := by decide +kernel
theorem dX10_takesE_205 : decode cX10_takesE 205 = .ok (.aload_n 0, 1) := by decide +kernel
theorem dX10_takesE_206 : decode cX10_takesE 206 = .ok (.dup, 1) := by decide +kernel
theorem dX10_takesE_207 : decode cX10_takesE 207 = .ok (.getfield 86, 3) := by decide +kernel
theorem dX10_takesE_210 : decode cX10_takesE 210 = .ok (.iconst 1, 1) := by decide +kernel
theorem dX10_takesE_211 : decode cX10_takesE 211 = .ok (.isub, 1) := by decide +kernel
theorem dX10_takesE_212 : decode cX10_takesE 212 = .ok (.putfield 86, 3) := by decide +kernel
theorem dX10_takesE_215 : decode cX10_takesE 215 = .ok (.aload_n 0, 1) := by decide +kernel
theorem dX10_takesE_216 : decode cX10_takesE 216 = .ok (.dup, 1) := by decide +kernel
theorem dX10_takesE_217 : decode cX10_takesE 217 = .ok (.getfield 50, 3) := by decide +kernel
theorem dX10_takesE_220 : decode cX10_takesE 220 = .ok (.iconst 1, 1) := by decide +kernel
theorem dX10_takesE_221 : decode cX10_takesE 221 = .ok (.iadd, 1) := by decide +kernel
theorem dX10_takesE_222 : decode cX10_takesE 222 = .ok (.putfield 50, 3) := by decide +kernel
theorem dX10_takesE_225 : decode cX10_takesE 225 = .ok (.aload_n 0, 1) := by decide +kernel
theorem dX10_takesE_226 : decode cX10_takesE 226 = .ok (.invokevirtual 293, 3) := by decide +kernel
theorem dX10_takesE_229 : decode cX10_takesE 229 = .ok (.goto (-207), 3) := by decide +kernel
theorem dX10_takesHead_0 : decode cX10_takesHead 0 = .ok (.aload_n 0, 1) := by decide +kernel
theorem dX10_takesHead_1 : decode cX10_takesHead 1 = .ok (.invokevirtual 271, 3) := by decide +kernel
theorem dX10_takesHead_4 : decode cX10_takesHead 4 = .ok (.lookupswitch 56 #[(104, 42), (115, 28)], 28) := by decide +kernel
theorem dX10_takesHead_32 : decode cX10_takesHead 32 = .ok (.aload_n 0, 1) := by decide +kernel
theorem dX10_takesHead_33 : decode cX10_takesHead 33 = .ok (.getfield 62, 3) := by decide +kernel
theorem dX10_takesHead_36 : decode cX10_takesHead 36 = .ok (.iload_n 1, 1) := by decide +kernel
theorem dX10_takesHead_37 : decode cX10_takesHead 37 = .ok (.iconst 0, 1) := by decide +kernel
theorem dX10_takesHead_38 : decode cX10_takesHead 38 = .ok (.iastore, 1) := by decide +kernel
theorem dX10_takesHead_39 : decode cX10_takesHead 39 = .ok (.aload_n 0, 1) := by decide +kernel
theorem dX10_takesHead_40 : decode cX10_takesHead 40 = .ok (.iconst 0, 1) := by decide +kernel
theorem dX10_takesHead_41 : decode cX10_takesHead 41 = .ok (.iconst 4, 1) := by decide +kernel
theorem dX10_takesHead_42 : decode cX10_takesHead 42 = .ok (.invokevirtual 302, 3) := by decide +kernel
theorem dX10_takesHead_45 : decode cX10_takesHead 45 = .ok (.ireturn, 1) := by decide +kernel
theorem dX10_takesHead_46 : decode cX10_takesHead 46 = .ok (.aload_n 0, 1) := by decide +kernel
theorem dX10_takesHead_47 : decode cX10_takesHead 47 = .ok (.getfield 62, 3) := by decide +kernel
theorem dX10_takesHead_50 : decode cX10_takesHead 50 = .ok (.iload_n 1, 1) := by decide +kernel
theorem dX10_takesHead_51 : decode cX10_takesHead 51 = .ok (.iconst 1, 1) := by decide +kernel
theorem dX10_takesHead_52 : decode cX10_takesHead 52 = .ok (.iastore, 1) := by decide +kernel
theorem dX10_takesHead_53 : decode cX10_takesHead 53 = .ok (.aload_n 0, 1) := by decide +kernel
theorem dX10_takesHead_54 : decode cX10_takesHead 54 = .ok (.iconst 4, 1) := by decide +kernel
theorem dX10_takesHead_55 : decode cX10_takesHead 55 = .ok (.iconst 4, 1) := by decide +kernel
theorem dX10_takesHead_56 : decode cX10_takesHead 56 = .ok (.invokevirtual 302, 3) := by decide +kernel
theorem dX10_takesHead_59 : decode cX10_takesHead 59 = .ok (.ireturn, 1) := by decide +kernel
theorem dX10_takesHead_60 : decode cX10_takesHead 60 = .ok (.aload_n 0, 1) := by decide +kernel
theorem dX10_takesHead_61 : decode cX10_takesHead 61 = .ok (.getfield 62, 3) := by decide +kernel
theorem dX10_takesHead_64 : decode cX10_takesHead 64 = .ok (.iload_n 1, 1) := by decide +kernel
theorem dX10_takesHead_65 : decode cX10_takesHead 65 = .ok (.iconst 2, 1) := by decide +kernel
theorem dX10_takesHead_66 : decode cX10_takesHead 66 = .ok (.iastore, 1) := by decide +kernel
theorem dX10_takesHead_67 : decode cX10_takesHead 67 = .ok (.aload_n 0, 1) := by decide +kernel
theorem dX10_takesHead_68 : decode cX10_takesHead 68 = .ok (.bipush 8, 2) := by decide +kernel
theorem dX10_takesHead_70 : decode cX10_takesHead 70 = .ok (.iconst 4, 1) := by decide +kernel
theorem dX10_takesHead_71 : decode cX10_takesHead 71 = .ok (.invokevirtual 302, 3) := by decide +kernel
theorem dX10_takesHead_74 : decode cX10_takesHead 74 = .ok (.ireturn, 1) := by decide +kernel
theorem dX10_takesClause_0 : decode cX10_takesClause 0 = .ok (.aload_n 0, 1) := by decide +kernel
theorem dX10_takesClause_1 : decode cX10_takesClause 1 = .ok (.iload_n 1, 1) := by decide +kernel
theorem dX10_takesClause_2 : decode cX10_takesClause 2 = .ok (.invokevirtual 305, 3) := by decide +kernel
theorem dX10_takesClause_5 : decode cX10_takesClause 5 = .ok (.ifCond .eq 10, 3) := by decide +kernel
theorem dX10_takesClause_8 : decode cX10_takesClause 8 = .ok (.aload_n 0, 1) := by decide +kernel
theorem dX10_takesClause_9 : decode cX10_takesClause 9 = .ok (.invokevirtual 290, 3) := by decide +kernel
theorem dX10_takesClause_12 : decode cX10_takesClause 12 = .ok (.ifCond .ne 5, 3) := by decide +kernel
theorem dX10_takesClause_15 : decode cX10_takesClause 15 = .ok (.iconst 0, 1) := by decide +kernel
theorem dX10_takesClause_16 : decode cX10_takesClause 16 = .ok (.ireturn, 1) := by decide +kernel
theorem dX10_takesClause_17 : decode cX10_takesClause 17 = .ok (.aload_n 0, 1) := by decide +kernel
theorem dX10_takesClause_18 : decode cX10_takesClause 18 = .ok (.getfield 65, 3) := by decide +kernel
theorem dX10_takesClause_21 : decode cX10_takesClause 21 = .ok (.iload_n 1, 1) := by decide +kernel
theorem dX10_takesClause_22 : decode cX10_takesClause 22 = .ok (.aload_n 0, 1) := by decide +kernel
theorem dX10_takesClause_23 : decode cX10_takesClause 23 = .ok (.getfield 53, 3) := by decide +kernel
theorem dX10_takesClause_26 : decode cX10_takesClause 26 = .ok (.iastore, 1) := by decide +kernel
theorem dX10_takesClause_27 : decode cX10_takesClause 27 = .ok (.aload_n 0, 1) := by decide +kernel
theorem dX10_takesClause_28 : decode cX10_takesClause 28 = .ok (.getfield 62, 3) := by decide +kernel
theorem dX10_takesClause_31 : decode cX10_takesClause 31 = .ok (.iload_n 1, 1) := by decide +kernel
theorem dX10_takesClause_32 : decode cX10_takesClause 32 = .ok (.iaload, 1) := by decide +kernel
theorem dX10_takesClause_33 : decode cX10_takesClause 33 = .ok (.iconst 2, 1) := by decide +kernel
theorem dX10_takesClause_34 : decode cX10_takesClause 34 = .ok (.if_icmp .eq 20, 3) := by decide +kernel
theorem dX10_takesClause_37 : decode cX10_takesClause 37 = .ok (.aload_n 0, 1) := by decide +kernel
theorem dX10_takesClause_38 : decode cX10_takesClause 38 = .ok (.bipush 32, 2) := by decide +kernel
theorem dX10_takesClause_40 : decode cX10_takesClause 40 = .ok (.invokevirtual 275, 3) := by decide +kernel
theorem dX10_takesClause_43 : decode cX10_takesClause 43 = .ok (.ifCond .eq 15, 3) := by decide +kernel
theorem dX10_takesClause_46 : decode cX10_takesClause 46 = .ok (.aload_n 0, 1) := by decide +kernel
theorem dX10_takesClause_47 : decode cX10_takesClause 47 = .ok (.iload_n 1, 1) := by decide +kernel
theorem dX10_takesClause_48 : decode cX10_takesClause 48 = .ok (.invokevirtual 308, 3) := by decide +kernel
theorem dX10_takesClause_51 : decode cX10_takesClause 51 = .ok (.ifCond .eq 7, 3) := by decide +kernel
theorem dX10_takesClause_54 : decode cX10_takesClause 54 = .ok (.iconst 1, 1) := by decide +kernel
theorem dX10_takesClause_55 : decode cX10_takesClause 55 = .ok (.goto 4, 3) := by decide +kernel
theorem dX10_takesClause_58 : decode cX10_takesClause 58 = .ok (.iconst 0, 1) := by decide +kernel
theorem dX10_takesClause_59 : decode cX10_takesClause 59 = .ok (.ireturn, 1) := by decide +kernel
theorem dX10_goesText_0 : decode cX10_goesText 0 = .ok (.aload_n 0, 1) := by decide +kernel
theorem dX10_goesText_1 : decode cX10_goesText 1 = .ok (.iconst 0, 1) := by decide +kernel
theorem dX10_goesText_2 : decode cX10_goesText 2 = .ok (.putfield 50, 3) := by decide +kernel
theorem dX10_goesText_5 : decode cX10_goesText 5 = .ok (.aload_n 0, 1) := by decide +kernel
theorem dX10_goesText_6 : decode cX10_goesText 6 = .ok (.bipush 100, 2) := by decide +kernel
theorem dX10_goesText_8 : decode cX10_goesText 8 = .ok (.iload_n 1, 1) := by decide +kernel
theorem dX10_goesText_9 : decode cX10_goesText 9 = .ok (.imul, 1) := by decide +kernel
theorem dX10_goesText_10 : decode cX10_goesText 10 = .ok (.putfield 80, 3) := by decide +kernel
theorem dX10_goesText_13 : decode cX10_goesText 13 = .ok (.iconst 0, 1) := by decide +kernel
theorem dX10_goesText_14 : decode cX10_goesText 14 = .ok (.istore_n 2, 1) := by decide +kernel
theorem dX10_goesText_15 : decode cX10_goesText 15 = .ok (.aload_n 0, 1) := by decide +kernel
theorem dX10_goesText_16 : decode cX10_goesText 16 = .ok (.bipush 10, 2) := by decide +kernel
theorem dX10_goesText_18 : decode cX10_goesText 18 = .ok (.iload_n 1, 1) := by decide +kernel
theorem dX10_goesText_19 : decode cX10_goesText 19 = .ok (.imul, 1) := by decide +kernel
theorem dX10_goesText_20 : decode cX10_goesText 20 = .ok (.iload_n 2, 1) := by decide +kernel
theorem dX10_goesText_21 : decode cX10_goesText 21 = .ok (.iadd, 1) := by decide +kernel
theorem dX10_goesText_22 : decode cX10_goesText 22 = .ok (.invokevirtual 311, 3) := by decide +kernel
theorem dX10_goesText_25 : decode cX10_goesText 25 = .ok (.ifCond .ne 5, 3) := by decide +kernel
theorem dX10_goesText_28 : decode cX10_goesText 28 = .ok (.iconst 0, 1) := by decide +kernel
theorem dX10_goesText_29 : decode cX10_goesText 29 = .ok (.ireturn, 1) := by decide +kernel
theorem dX10_goesText_30 : decode cX10_goesText 30 = .ok (.iinc 2 1, 3) := by decide +kernel
theorem dX10_goesText_33 : decode cX10_goesText 33 = .ok (.aload_n 0, 1) := by decide +kernel
theorem dX10_goesText_34 : decode cX10_goesText 34 = .ok (.getfield 59, 3) := by decide +kernel
theorem dX10_goesText_37 : decode cX10_goesText 37 = .ok (.iload_n 1, 1) := by decide +kernel
theorem dX10_goesText_38 : decode cX10_goesText 38 = .ok (.iload_n 2, 1) := by decide +kernel
theorem dX10_goesText_39 : decode cX10_goesText 39 = .ok (.iastore, 1) := by decide +kernel
theorem dX10_goesText_40 : decode cX10_goesText 40 = .ok (.aload_n 0, 1) := by decide +kernel
theorem dX10_goesText_41 : decode cX10_goesText 41 = .ok (.getfield 50, 3) := by decide +kernel
theorem dX10_goesText_44 : decode cX10_goesText 44 = .ok (.aload_n 0, 1) := by decide +kernel
theorem dX10_goesText_45 : decode cX10_goesText 45 = .ok (.getfield 47, 3) := by decide +kernel
theorem dX10_goesText_48 : decode cX10_goesText 48 = .ok (.if_icmp .ne 5, 3) := by decide +kernel
theorem dX10_goesText_51 : decode cX10_goesText 51 = .ok (.iconst 1, 1) := by decide +kernel
theorem dX10_goesText_52 : decode cX10_goesText 52 = .ok (.ireturn, 1) := by decide +kernel
theorem dX10_goesText_53 : decode cX10_goesText 53 = .ok (.iload_n 2, 1) := by decide +kernel
theorem dX10_goesText_54 : decode cX10_goesText 54 = .ok (.bipush 10, 2) := by decide +kernel
theorem dX10_goesText_56 : decode cX10_goesText 56 = .ok (.if_icmp .eq 12, 3) := by decide +kernel
theorem dX10_goesText_59 : decode cX10_goesText 59 = .ok (.aload_n 0, 1) := by decide +kernel
theorem dX10_goesText_60 : decode cX10_goesText 60 = .ok (.bipush 59, 2) := by decide +kernel
theorem dX10_goesText_62 : decode cX10_goesText 62 = .ok (.invokevirtual 275, 3) := by decide +kernel
theorem dX10_goesText_65 : decode cX10_goesText 65 = .ok (.ifCond .ne (-50), 3) := by decide +kernel
theorem dX10_goesText_68 : decode cX10_goesText 68 = .ok (.iconst 0, 1) := by decide +kernel
theorem dX10_goesText_69 : decode cX10_goesText 69 = .ok (.ireturn, 1) := by decide +kernel
theorem dX10_room_0 : decode cX10_room 0 = .ok (.aload_n 0, 1) := by decide +kernel
theorem dX10_room_1 : decode cX10_room 1 = .ok (.getfield 41, 3) := by decide +kernel
theorem dX10_room_4 : decode cX10_room 4 = .ok (.bipush 6, 2) := by decide +kernel
theorem dX10_room_6 : decode cX10_room 6 = .ok (.if_icmp .ne 6, 3) := by decide +kernel
theorem dX10_room_9 : decode cX10_room 9 = .ok (.bipush (-4), 2) := by decide +kernel
theorem dX10_room_11 : decode cX10_room 11 = .ok (.ireturn, 1) := by decide +kernel
theorem dX10_room_12 : decode cX10_room 12 = .ok (.aload_n 0, 1) := by decide +kernel
theorem dX10_room_13 : decode cX10_room 13 = .ok (.aload_n 0, 1) := by decide +kernel
theorem dX10_room_14 : decode cX10_room 14 = .ok (.getfield 41, 3) := by decide +kernel
theorem dX10_room_17 : decode cX10_room 17 = .ok (.invokevirtual 314, 3) := by decide +kernel
theorem dX10_room_20 : decode cX10_room 20 = .ok (.istore_n 1, 1) := by decide +kernel
theorem dX10_room_21 : decode cX10_room 21 = .ok (.aload_n 0, 1) := by decide +kernel
theorem dX10_room_22 : decode cX10_room 22 = .ok (.iconst 0, 1) := by decide +kernel
theorem dX10_room_23 : decode cX10_room 23 = .ok (.putfield 47, 3) := by decide +kernel
theorem dX10_room_26 : decode cX10_room 26 = .ok (.iload_n 1, 1) := by decide +kernel
theorem dX10_room_27 : decode cX10_room 27 = .ok (.ifCond .ne 11, 3) := by decide +kernel
theorem dX10_room_30 : decode cX10_room 30 = .ok (.bipush (-10), 2) := by decide +kernel
theorem dX10_room_32 : decode cX10_room 32 = .ok (.aload_n 0, 1) := by decide +kernel
theorem dX10_room_33 : decode cX10_room 33 = .ok (.getfield 50, 3) := by decide +kernel
theorem dX10_room_36 : decode cX10_room 36 = .ok (.isub, 1) := by decide +kernel
theorem dX10_room_37 : decode cX10_room 37 = .ok (.ireturn, 1) := by decide +kernel
theorem dX10_room_38 : decode cX10_room 38 = .ok (.aload_n 0, 1) := by decide +kernel
theorem dX10_room_39 : decode cX10_room 39 = .ok (.aload_n 0, 1) := by decide +kernel
theorem dX10_room_40 : decode cX10_room 40 = .ok (.getfield 41, 3) := by decide +kernel
theorem dX10_room_43 : decode cX10_room 43 = .ok (.putfield 44, 3) := by decide +kernel
theorem dX10_room_46 : decode cX10_room 46 = .ok (.aload_n 0, 1) := by decide +kernel
theorem dX10_room_47 : decode cX10_room 47 = .ok (.dup, 1) := by decide +kernel
theorem dX10_room_48 : decode cX10_room 48 = .ok (.getfield 41, 3) := by decide +kernel
theorem dX10_room_51 : decode cX10_room 51 = .ok (.iconst 1, 1) := by decide +kernel
theorem dX10_room_52 : decode cX10_room 52 = .ok (.iadd, 1) := by decide +kernel
theorem dX10_room_53 : decode cX10_room 53 = .ok (.putfield 41, 3) := by decide +kernel
theorem dX10_room_56 : decode cX10_room 56 = .ok (.aload_n 0, 1) := by decide +kernel
theorem dX10_room_57 : decode cX10_room 57 = .ok (.getfield 44, 3) := by decide +kernel
theorem dX10_room_60 : decode cX10_room 60 = .ok (.ireturn, 1) := by decide +kernel
theorem dX10_begin_0 : decode cX10_begin 0 = .ok (.aload_n 0, 1) := by decide +kernel
theorem dX10_begin_1 : decode cX10_begin 1 = .ok (.getfield 44, 3) := by decide +kernel
theorem dX10_begin_4 : decode cX10_begin 4 = .ok (.ifCond .ge 7, 3) := by decide +kernel
theorem dX10_begin_7 : decode cX10_begin 7 = .ok (.iconst 0, 1) := by decide +kernel
theorem dX10_begin_8 : decode cX10_begin 8 = .ok (.goto 10, 3) := by decide +kernel
theorem dX10_begin_11 : decode cX10_begin 11 = .ok (.bipush 10, 2) := by decide +kernel
theorem dX10_begin_13 : decode cX10_begin 13 = .ok (.aload_n 0, 1) := by decide +kernel
theorem dX10_begin_14 : decode cX10_begin 14 = .ok (.getfield 44, 3) := by decide +kernel
theorem dX10_begin_17 : decode cX10_begin 17 = .ok (.imul, 1) := by decide +kernel
theorem dX10_begin_18 : decode cX10_begin 18 = .ok (.ireturn, 1) := by decide +kernel
theorem dX10_behind_0 : decode cX10_behind 0 = .ok (.aload_n 0, 1) := by decide +kernel
theorem dX10_behind_1 : decode cX10_behind 1 = .ok (.getfield 44, 3) := by decide +kernel
theorem dX10_behind_4 : decode cX10_behind 4 = .ok (.ifCond .ge 7, 3) := by decide +kernel
theorem dX10_behind_7 : decode cX10_behind 7 = .ok (.iconst 0, 1) := by decide +kernel
theorem dX10_behind_8 : decode cX10_behind 8 = .ok (.goto 20, 3) := by decide +kernel
theorem dX10_behind_11 : decode cX10_behind 11 = .ok (.bipush 10, 2) := by decide +kernel
theorem dX10_behind_13 : decode cX10_behind 13 = .ok (.aload_n 0, 1) := by decide +kernel
theorem dX10_behind_14 : decode cX10_behind 14 = .ok (.getfield 44, 3) := by decide +kernel
theorem dX10_behind_17 : decode cX10_behind 17 = .ok (.imul, 1) := by decide +kernel
theorem dX10_behind_18 : decode cX10_behind 18 = .ok (.aload_n 0, 1) := by decide +kernel
theorem dX10_behind_19 : decode cX10_behind 19 = .ok (.getfield 59, 3) := by decide +kernel
theorem dX10_behind_22 : decode cX10_behind 22 = .ok (.aload_n 0, 1) := by decide +kernel
theorem dX10_behind_23 : decode cX10_behind 23 = .ok (.getfield 44, 3) := by decide +kernel
theorem dX10_behind_26 : decode cX10_behind 26 = .ok (.iaload, 1) := by decide +kernel
theorem dX10_behind_27 : decode cX10_behind 27 = .ok (.iadd, 1) := by decide +kernel
theorem dX10_behind_28 : decode cX10_behind 28 = .ok (.ireturn, 1) := by decide +kernel
theorem dX10_bald_0 : decode cX10_bald 0 = .ok (.bipush 30, 2) := by decide +kernel
theorem dX10_bald_2 : decode cX10_bald 2 = .ok (.istore_n 1, 1) := by decide +kernel
theorem dX10_bald_3 : decode cX10_bald 3 = .ok (.aload_n 0, 1) := by decide +kernel
theorem dX10_bald_4 : decode cX10_bald 4 = .ok (.invokevirtual 317, 3) := by decide +kernel
theorem dX10_bald_7 : decode cX10_bald 7 = .ok (.istore_n 2, 1) := by decide +kernel
theorem dX10_bald_8 : decode cX10_bald 8 = .ok (.iload_n 2, 1) := by decide +kernel
theorem dX10_bald_9 : decode cX10_bald 9 = .ok (.aload_n 0, 1) := by decide +kernel
theorem dX10_bald_10 : decode cX10_bald 10 = .ok (.invokevirtual 320, 3) := by decide +kernel
theorem dX10_bald_13 : decode cX10_bald 13 = .ok (.if_icmp .ge 30, 3) := by decide +kernel
theorem dX10_bald_16 : decode cX10_bald 16 = .ok (.aload_n 0, 1) := by decide +kernel
theorem dX10_bald_17 : decode cX10_bald 17 = .ok (.getfield 62, 3) := by decide +kernel
theorem dX10_bald_20 : decode cX10_bald 20 = .ok (.iload_n 2, 1) := by decide +kernel
theorem dX10_bald_21 : decode cX10_bald 21 = .ok (.iaload, 1) := by decide +kernel
theorem dX10_bald_22 : decode cX10_bald 22 = .ok (.iconst 2, 1) := by decide +kernel
theorem dX10_bald_23 : decode cX10_bald 23 = .ok (.if_icmp .ne 12, 3) := by decide +kernel
theorem dX10_bald_26 : decode cX10_bald 26 = .ok (.aload_n 0, 1) := by decide +kernel
theorem dX10_bald_27 : decode cX10_bald 27 = .ok (.getfield 65, 3) := by decide +kernel
theorem dX10_bald_30 : decode cX10_bald 30 = .ok (.iload_n 2, 1) := by decide +kernel
theorem dX10_bald_31 : decode cX10_bald 31 = .ok (.iaload, 1) := by decide +kernel
theorem dX10_bald_32 : decode cX10_bald 32 = .ok (.goto 4, 3) := by decide +kernel
theorem dX10_bald_35 : decode cX10_bald 35 = .ok (.iload_n 1, 1) := by decide +kernel
theorem dX10_bald_36 : decode cX10_bald 36 = .ok (.istore_n 1, 1) := by decide +kernel
theorem dX10_bald_37 : decode cX10_bald 37 = .ok (.iinc 2 1, 3) := by decide +kernel
theorem dX10_bald_40 : decode cX10_bald 40 = .ok (.goto (-32), 3) := by decide +kernel
theorem dX10_bald_43 : decode cX10_bald 43 = .ok (.iload_n 1, 1) := by decide +kernel
theorem dX10_bald_44 : decode cX10_bald 44 = .ok (.ireturn, 1) := by decide +kernel
theorem dX10_factOf_0 : decode cX10_factOf 0 = .ok (.iload_n 1, 1) := by decide +kernel
theorem dX10_factOf_1 : decode cX10_factOf 1 = .ok (.tableswitch 54 0 4 #[35, 37, 41, 45, 47], 35) := by decide +kernel
theorem dX10_factOf_36 : decode cX10_factOf 36 = .ok (.iload_n 2, 1) := by decide +kernel
theorem dX10_factOf_37 : decode cX10_factOf 37 = .ok (.ireturn, 1) := by decide +kernel
theorem dX10_factOf_38 : decode cX10_factOf 38 = .ok (.iload_n 2, 1) := by decide +kernel
theorem dX10_factOf_39 : decode cX10_factOf 39 = .ok (.iconst 4, 1) := by decide +kernel
theorem dX10_factOf_40 : decode cX10_factOf 40 = .ok (.idiv, 1) := by decide +kernel
theorem dX10_factOf_41 : decode cX10_factOf 41 = .ok (.ireturn, 1) := by decide +kernel
theorem dX10_factOf_42 : decode cX10_factOf 42 = .ok (.iload_n 2, 1) := by decide +kernel
theorem dX10_factOf_43 : decode cX10_factOf 43 = .ok (.iconst 4, 1) := by decide +kernel
theorem dX10_factOf_44 : decode cX10_factOf 44 = .ok (.irem, 1) := by decide +kernel
theorem dX10_factOf_45 : decode cX10_factOf 45 = .ok (.ireturn, 1) := by decide +kernel
theorem dX10_factOf_46 : decode cX10_factOf 46 = .ok (.iload_n 3, 1) := by decide +kernel
theorem dX10_factOf_47 : decode cX10_factOf 47 = .ok (.ireturn, 1) := by decide +kernel
theorem dX10_factOf_48 : decode cX10_factOf 48 = .ok (.aload_n 0, 1) := by decide +kernel
theorem dX10_factOf_49 : decode cX10_factOf 49 = .ok (.getfield 26, 3) := by decide +kernel
theorem dX10_factOf_52 : decode cX10_factOf 52 = .ok (.iload_n 3, 1) := by decide +kernel
theorem dX10_factOf_53 : decode cX10_factOf 53 = .ok (.iaload, 1) := by decide +kernel
theorem dX10_factOf_54 : decode cX10_factOf 54 = .ok (.ireturn, 1) := by decide +kernel
theorem dX10_factOf_55 : decode cX10_factOf 55 = .ok (.aload_n 0, 1) := by decide +kernel
theorem dX10_factOf_56 : decode cX10_factOf 56 = .ok (.getfield 29, 3) := by decide +kernel
theorem dX10_factOf_59 : decode cX10_factOf 59 = .ok (.iload_n 3, 1) := by decide +kernel
theorem dX10_factOf_60 : decode cX10_factOf 60 = .ok (.iaload, 1) := by decide +kernel
theorem dX10_factOf_61 : decode cX10_factOf 61 = .ok (.ireturn, 1) := by decide +kernel
theorem dX10_holds_0 : decode cX10_holds 0 = .ok (.iconst 0, 1) := by decide +kernel
theorem dX10_holds_1 : decode cX10_holds 1 = .ok (.istore 4, 2) := by decide +kernel
theorem dX10_holds_3 : decode cX10_holds 3 = .ok (.aload_n 0, 1) := by decide +kernel
theorem dX10_holds_4 : decode cX10_holds 4 = .ok (.getfield 68, 3) := by decide +kernel
theorem dX10_holds_7 : decode cX10_holds 7 = .ok (.iload_n 1, 1) := by decide +kernel
theorem dX10_holds_8 : decode cX10_holds 8 = .ok (.iaload, 1) := by decide +kernel
theorem dX10_holds_9 : decode cX10_holds 9 = .ok (.istore 5, 2) := by decide +kernel
theorem dX10_holds_11 : decode cX10_holds 11 = .ok (.iload 5, 2) := by decide +kernel
theorem dX10_holds_13 : decode cX10_holds 13 = .ok (.aload_n 0, 1) := by decide +kernel
theorem dX10_holds_14 : decode cX10_holds 14 = .ok (.getfield 71, 3) := by decide +kernel
theorem dX10_holds_17 : decode cX10_holds 17 = .ok (.iload_n 1, 1) := by decide +kernel
theorem dX10_holds_18 : decode cX10_holds 18 = .ok (.iaload, 1) := by decide +kernel
theorem dX10_holds_19 : decode cX10_holds 19 = .ok (.if_icmp .ge 234, 3) := by decide +kernel
theorem dX10_holds_22 : decode cX10_holds 22 = .ok (.aload_n 0, 1) := by decide +kernel
theorem dX10_holds_23 : decode cX10_holds 23 = .ok (.getfield 74, 3) := by decide +kernel
theorem dX10_holds_26 : decode cX10_holds 26 = .ok (.iload 5, 2) := by decide +kernel
theorem dX10_holds_28 : decode cX10_holds 28 = .ok (.iaload, 1) := by decide +kernel
theorem dX10_holds_29 : decode cX10_holds 29 = .ok (.istore 6, 2) := by decide +kernel
theorem dX10_holds_31 : decode cX10_holds 31 = .ok (.iload 6, 2) := by decide +kernel
theorem dX10_holds_33 : decode cX10_holds 33 = .ok (.bipush (-33), 2) := by decide +kernel
theorem dX10_holds_35 : decode cX10_holds 35 = .ok (.if_icmp .ne 32, 3) := by decide +kernel
theorem dX10_holds_38 : decode cX10_holds 38 = .ok (.aload_n 0, 1) := by decide +kernel
theorem dX10_holds_39 : decode cX10_holds 39 = .ok (.getfield 92, 3) := by decide +kernel
theorem dX10_holds_42 : decode cX10_holds 42 = .ok (.iload 4, 2) := by decide +kernel
theorem dX10_holds_44 : decode cX10_holds 44 = .ok (.iconst 1, 1) := by decide +kernel
theorem dX10_holds_45 : decode cX10_holds 45 = .ok (.isub, 1) := by decide +kernel
theorem dX10_holds_46 : decode cX10_holds 46 = .ok (.aload_n 0, 1) := by decide +kernel
theorem dX10_holds_47 : decode cX10_holds 47 = .ok (.getfield 92, 3) := by decide +kernel
theorem dX10_holds_50 : decode cX10_holds 50 = .ok (.iload 4, 2) := by decide +kernel
theorem dX10_holds_52 : decode cX10_holds 52 = .ok (.iconst 1, 1) := by decide +kernel
theorem dX10_holds_53 : decode cX10_holds 53 = .ok (.isub, 1) := by decide +kernel
theorem dX10_holds_54 : decode cX10_holds 54 = .ok (.baload, 1) := by decide +kernel
theorem dX10_holds_55 : decode cX10_holds 55 = .ok (.ifCond .ne 7, 3) := by decide +kernel
theorem dX10_holds_58 : decode cX10_holds 58 = .ok (.iconst 1, 1) := by decide +kernel
theorem dX10_holds_59 : decode cX10_holds 59 = .ok (.goto 4, 3) := by decide +kernel
theorem dX10_holds_62 : decode cX10_holds 62 = .ok (.iconst 0, 1) := by decide +kernel
theorem dX10_holds_63 : decode cX10_holds 63 = .ok (.bastore, 1) := by decide +kernel
theorem dX10_holds_64 : decode cX10_holds 64 = .ok (.goto 183, 3) := by decide +kernel
theorem dX10_holds_67 : decode cX10_holds 67 = .ok (.iload 6, 2) := by decide +kernel
theorem dX10_holds_69 : decode cX10_holds 69 = .ok (.ifCond .ge 82, 3) := by decide +kernel
theorem dX10_holds_72 : decode cX10_holds 72 = .ok (.iinc 4 (-1), 3) := by decide +kernel
theorem dX10_holds_75 : decode cX10_holds 75 = .ok (.aload_n 0, 1) := by decide +kernel
theorem dX10_holds_76 : decode cX10_holds 76 = .ok (.getfield 92, 3) := by decide +kernel
theorem dX10_holds_79 : decode cX10_holds 79 = .ok (.iload 4, 2) := by decide +kernel
theorem dX10_holds_81 : decode cX10_holds 81 = .ok (.iconst 1, 1) := by decide +kernel
theorem dX10_holds_82 : decode cX10_holds 82 = .ok (.isub, 1) := by decide +kernel
theorem dX10_holds_83 : decode cX10_holds 83 = .ok (.iload 6, 2) := by decide +kernel
theorem dX10_holds_85 : decode cX10_holds 85 = .ok (.bipush (-38), 2) := by decide +kernel
theorem dX10_holds_87 : decode cX10_holds 87 = .ok (.if_icmp .ne 33, 3) := by decide +kernel
theorem dX10_holds_90 : decode cX10_holds 90 = .ok (.aload_n 0, 1) := by decide +kernel
theorem dX10_holds_91 : decode cX10_holds 91 = .ok (.getfield 92, 3) := by decide +kernel
theorem dX10_holds_94 : decode cX10_holds 94 = .ok (.iload 4, 2) := by decide +kernel
theorem dX10_holds_96 : decode cX10_holds 96 = .ok (.iconst 1, 1) := by decide +kernel
theorem dX10_holds_97 : decode cX10_holds 97 = .ok (.isub, 1) := by decide +kernel
theorem dX10_holds_98 : decode cX10_holds 98 = .ok (.baload, 1) := by decide +kernel
theorem dX10_holds_99 : decode cX10_holds 99 = .ok (.ifCond .eq 17, 3) := by decide +kernel
theorem dX10_holds_102 : decode cX10_holds 102 = .ok (.aload_n 0, 1) := by decide +kernel
theorem dX10_holds_103 : decode cX10_holds 103 = .ok (.getfield 92, 3) := by decide +kernel
theorem dX10_holds_106 : decode cX10_holds 106 = .ok (.iload 4, 2) := by decide +kernel
theorem dX10_holds_108 : decode cX10_holds 108 = .ok (.baload, 1) := by decide +kernel
theorem dX10_holds_109 : decode cX10_holds 109 = .ok (.ifCond .eq 7, 3) := by decide +kernel
theorem dX10_holds_112 : decode cX10_holds 112 = .ok (.iconst 1, 1) := by decide +kernel
theorem dX10_holds_113 : decode cX10_holds 113 = .ok (.goto 34, 3) := by decide +kernel
theorem dX10_holds_116 : decode cX10_holds 116 = .ok (.iconst 0, 1) := by decide +kernel
theorem dX10_holds_117 : decode cX10_holds 117 = .ok (.goto 30, 3) := by decide +kernel
theorem dX10_holds_120 : decode cX10_holds 120 = .ok (.aload_n 0, 1) := by decide +kernel
theorem dX10_holds_121 : decode cX10_holds 121 = .ok (.getfield 92, 3) := by decide +kernel
theorem dX10_holds_124 : decode cX10_holds 124 = .ok (.iload 4, 2) := by decide +kernel
theorem dX10_holds_126 : decode cX10_holds 126 = .ok (.iconst 1, 1) := by decide +kernel
theorem dX10_holds_127 : decode cX10_holds 127 = .ok (.isub, 1) := by decide +kernel
theorem dX10_holds_128 : decode cX10_holds 128 = .ok (.baload, 1) := by decide +kernel
theorem dX10_holds_129 : decode cX10_holds 129 = .ok (.ifCond .ne 13, 3) := by decide +kernel
theorem dX10_holds_132 : decode cX10_holds 132 = .ok (.aload_n 0, 1) := by decide +kernel
theorem dX10_holds_133 : decode cX10_holds 133 = .ok (.getfield 92, 3) := by decide +kernel
theorem dX10_holds_136 : decode cX10_holds 136 = .ok (.iload 4, 2) := by decide +kernel
theorem dX10_holds_138 : decode cX10_holds 138 = .ok (.baload, 1) := by decide +kernel
theorem dX10_holds_139 : decode cX10_holds 139 = .ok (.ifCond .eq 7, 3) := by decide +kernel
theorem dX10_holds_142 : decode cX10_holds 142 = .ok (.iconst 1, 1) := by decide +kernel
theorem dX10_holds_143 : decode cX10_holds 143 = .ok (.goto 4, 3) := by decide +kernel
theorem dX10_holds_146 : decode cX10_holds 146 = .ok (.iconst 0, 1) := by decide +kernel
theorem dX10_holds_147 : decode cX10_holds 147 = .ok (.bastore, 1) := by decide +kernel
theorem dX10_holds_148 : decode cX10_holds 148 = .ok (.goto 99, 3) := by decide +kernel
theorem dX10_holds_151 : decode cX10_holds 151 = .ok (.aload_n 0, 1) := by decide +kernel
theorem dX10_holds_152 : decode cX10_holds 152 = .ok (.iload 6, 2) := by decide +kernel
theorem dX10_holds_154 : decode cX10_holds 154 = .ok (.sipush 1000, 3) := by decide +kernel
theorem dX10_holds_157 : decode cX10_holds 157 = .ok (.idiv, 1) := by decide +kernel
theorem dX10_holds_158 : decode cX10_holds 158 = .ok (.iload_n 2, 1) := by decide +kernel
theorem dX10_holds_159 : decode cX10_holds 159 = .ok (.iload_n 3, 1) := by decide +kernel
theorem dX10_holds_160 : decode cX10_holds 160 = .ok (.invokevirtual 323, 3) := by decide +kernel
theorem dX10_holds_163 : decode cX10_holds 163 = .ok (.istore 7, 2) := by decide +kernel
theorem dX10_holds_165 : decode cX10_holds 165 = .ok (.iload 6, 2) := by decide +kernel
theorem dX10_holds_167 : decode cX10_holds 167 = .ok (.bipush 100, 2) := by decide +kernel
theorem dX10_holds_169 : decode cX10_holds 169 = .ok (.idiv, 1) := by decide +kernel
theorem dX10_holds_170 : decode cX10_holds 170 = .ok (.bipush 10, 2) := by decide +kernel
theorem dX10_holds_172 : decode cX10_holds 172 = .ok (.irem, 1) := by decide +kernel
theorem dX10_holds_173 : decode cX10_holds 173 = .ok (.istore 8, 2) := by decide +kernel
theorem dX10_holds_175 : decode cX10_holds 175 = .ok (.aload_n 0, 1) := by decide +kernel
theorem dX10_holds_176 : decode cX10_holds 176 = .ok (.getfield 92, 3) := by decide +kernel
theorem dX10_holds_179 : decode cX10_holds 179 = .ok (.iload 4, 2) := by decide +kernel
theorem dX10_holds_181 : decode cX10_holds 181 = .ok (.iload 8, 2) := by decide +kernel
theorem dX10_holds_183 : decode cX10_holds 183 = .ok (.ifCond .ne 21, 3) := by decide +kernel
theorem dX10_holds_186 : decode cX10_holds 186 = .ok (.iload 7, 2) := by decide +kernel
theorem dX10_holds_188 : decode cX10_holds 188 = .ok (.iload 6, 2) := by decide +kernel
theorem dX10_holds_190 : decode cX10_holds 190 = .ok (.bipush 100, 2) := by decide +kernel
theorem dX10_holds_192 : decode cX10_holds 192 = .ok (.irem, 1) := by decide +kernel
theorem dX10_holds_193 : decode cX10_holds 193 = .ok (.if_icmp .ge 7, 3) := by decide +kernel
theorem dX10_holds_196 : decode cX10_holds 196 = .ok (.iconst 1, 1) := by decide +kernel
theorem dX10_holds_197 : decode cX10_holds 197 = .ok (.goto 46, 3) := by decide +kernel
theorem dX10_holds_200 : decode cX10_holds 200 = .ok (.iconst 0, 1) := by decide +kernel
theorem dX10_holds_201 : decode cX10_holds 201 = .ok (.goto 42, 3) := by decide +kernel
theorem dX10_holds_204 : decode cX10_holds 204 = .ok (.iload 8, 2) := by decide +kernel
theorem dX10_holds_206 : decode cX10_holds 206 = .ok (.iconst 1, 1) := by decide +kernel
theorem dX10_holds_207 : decode cX10_holds 207 = .ok (.if_icmp .ne 21, 3) := by decide +kernel
theorem dX10_holds_210 : decode cX10_holds 210 = .ok (.iload 7, 2) := by decide +kernel
theorem dX10_holds_212 : decode cX10_holds 212 = .ok (.iload 6, 2) := by decide +kernel
theorem dX10_holds_214 : decode cX10_holds 214 = .ok (.bipush 100, 2) := by decide +kernel
theorem dX10_holds_216 : decode cX10_holds 216 = .ok (.irem, 1) := by decide +kernel
theorem dX10_holds_217 : decode cX10_holds 217 = .ok (.if_icmp .ne 7, 3) := by decide +kernel
theorem dX10_holds_220 : decode cX10_holds 220 = .ok (.iconst 1, 1) := by decide +kernel
theorem dX10_holds_221 : decode cX10_holds 221 = .ok (.goto 22, 3) := by decide +kernel
theorem dX10_holds_224 : decode cX10_holds 224 = .ok (.iconst 0, 1) := by decide +kernel
theorem dX10_holds_225 : decode cX10_holds 225 = .ok (.goto 18, 3) := by decide +kernel
theorem dX10_holds_228 : decode cX10_holds 228 = .ok (.iload 7, 2) := by decide +kernel
theorem dX10_holds_230 : decode cX10_holds 230 = .ok (.iload 6, 2) := by decide +kernel
theorem dX10_holds_232 : decode cX10_holds 232 = .ok (.bipush 100, 2) := by decide +kernel
theorem dX10_holds_234 : decode cX10_holds 234 = .ok (.irem, 1) := by decide +kernel
theorem dX10_holds_235 : decode cX10_holds 235 = .ok (.if_icmp .le 7, 3) := by decide +kernel
theorem dX10_holds_238 : decode cX10_holds 238 = .ok (.iconst 1, 1) := by decide +kernel
theorem dX10_holds_239 : decode cX10_holds 239 = .ok (.goto 4, 3) := by decide +kernel
theorem dX10_holds_242 : decode cX10_holds 242 = .ok (.iconst 0, 1) := by decide +kernel
theorem dX10_holds_243 : decode cX10_holds 243 = .ok (.bastore, 1) := by decide +kernel
theorem dX10_holds_244 : decode cX10_holds 244 = .ok (.iinc 4 1, 3) := by decide +kernel
theorem dX10_holds_247 : decode cX10_holds 247 = .ok (.iinc 5 1, 3) := by decide +kernel
theorem dX10_holds_250 : decode cX10_holds 250 = .ok (.goto (-239), 3) := by decide +kernel
theorem dX10_holds_253 : decode cX10_holds 253 = .ok (.aload_n 0, 1) := by decide +kernel
theorem dX10_holds_254 : decode cX10_holds 254 = .ok (.getfield 92, 3) := by decide +kernel
theorem dX10_holds_257 : decode cX10_holds 257 = .ok (.iconst 0, 1) := by decide +kernel
theorem dX10_holds_258 : decode cX10_holds 258 = .ok (.baload, 1) := by decide +kernel
theorem dX10_holds_259 : decode cX10_holds 259 = .ok (.ireturn, 1) := by decide +kernel
theorem dX10_yieldsOf_0 : decode cX10_yieldsOf 0 = .ok (.iconst 1, 1) := by decide +kernel
theorem dX10_yieldsOf_1 : decode cX10_yieldsOf 1 = .ok (.istore_n 3, 1) := by decide +kernel
theorem dX10_yieldsOf_2 : decode cX10_yieldsOf 2 = .ok (.aload_n 0, 1) := by decide +kernel
theorem dX10_yieldsOf_3 : decode cX10_yieldsOf 3 = .ok (.invokevirtual 317, 3) := by decide +kernel
theorem dX10_yieldsOf_6 : decode cX10_yieldsOf 6 = .ok (.istore 4, 2) := by decide +kernel
theorem dX10_yieldsOf_8 : decode cX10_yieldsOf 8 = .ok (.iload 4, 2) := by decide +kernel
theorem dX10_yieldsOf_10 : decode cX10_yieldsOf 10 = .ok (.aload_n 0, 1) := by decide +kernel
theorem dX10_yieldsOf_11 : decode cX10_yieldsOf 11 = .ok (.invokevirtual 320, 3) := by decide +kernel
theorem dX10_yieldsOf_14 : decode cX10_yieldsOf 14 = .ok (.if_icmp .ge 65, 3) := by decide +kernel
theorem dX10_yieldsOf_17 : decode cX10_yieldsOf 17 = .ok (.aload_n 0, 1) := by decide +kernel
theorem dX10_yieldsOf_18 : decode cX10_yieldsOf 18 = .ok (.getfield 62, 3) := by decide +kernel
theorem dX10_yieldsOf_21 : decode cX10_yieldsOf 21 = .ok (.iload 4, 2) := by decide +kernel
theorem dX10_yieldsOf_23 : decode cX10_yieldsOf 23 = .ok (.iaload, 1) := by decide +kernel
theorem dX10_yieldsOf_24 : decode cX10_yieldsOf 24 = .ok (.iconst 1, 1) := by decide +kernel
theorem dX10_yieldsOf_25 : decode cX10_yieldsOf 25 = .ok (.if_icmp .gt 48, 3) := by decide +kernel
theorem dX10_yieldsOf_28 : decode cX10_yieldsOf 28 = .ok (.aload_n 0, 1) := by decide +kernel
theorem dX10_yieldsOf_29 : decode cX10_yieldsOf 29 = .ok (.iload 4, 2) := by decide +kernel
theorem dX10_yieldsOf_31 : decode cX10_yieldsOf 31 = .ok (.iload_n 1, 1) := by decide +kernel
theorem dX10_yieldsOf_32 : decode cX10_yieldsOf 32 = .ok (.iload_n 2, 1) := by decide +kernel
theorem dX10_yieldsOf_33 : decode cX10_yieldsOf 33 = .ok (.invokevirtual 327, 3) := by decide +kernel
theorem dX10_yieldsOf_36 : decode cX10_yieldsOf 36 = .ok (.ifCond .ne 6, 3) := by decide +kernel
theorem dX10_yieldsOf_39 : decode cX10_yieldsOf 39 = .ok (.goto 34, 3) := by decide +kernel
theorem dX10_yieldsOf_42 : decode cX10_yieldsOf 42 = .ok (.iload_n 3, 1) := by decide +kernel
theorem dX10_yieldsOf_43 : decode cX10_yieldsOf 43 = .ok (.aload_n 0, 1) := by decide +kernel
theorem dX10_yieldsOf_44 : decode cX10_yieldsOf 44 = .ok (.getfield 62, 3) := by decide +kernel
theorem dX10_yieldsOf_47 : decode cX10_yieldsOf 47 = .ok (.iload 4, 2) := by decide +kernel
theorem dX10_yieldsOf_49 : decode cX10_yieldsOf 49 = .ok (.iaload, 1) := by decide +kernel
theorem dX10_yieldsOf_50 : decode cX10_yieldsOf 50 = .ok (.ifCond .ne 13, 3) := by decide +kernel
theorem dX10_yieldsOf_53 : decode cX10_yieldsOf 53 = .ok (.aload_n 0, 1) := by decide +kernel
theorem dX10_yieldsOf_54 : decode cX10_yieldsOf 54 = .ok (.getfield 65, 3) := by decide +kernel
theorem dX10_yieldsOf_57 : decode cX10_yieldsOf 57 = .ok (.iload 4, 2) := by decide +kernel
theorem dX10_yieldsOf_59 : decode cX10_yieldsOf 59 = .ok (.iaload, 1) := by decide +kernel
theorem dX10_yieldsOf_60 : decode cX10_yieldsOf 60 = .ok (.goto 11, 3) := by decide +kernel
theorem dX10_yieldsOf_63 : decode cX10_yieldsOf 63 = .ok (.aload_n 0, 1) := by decide +kernel
theorem dX10_yieldsOf_64 : decode cX10_yieldsOf 64 = .ok (.getfield 65, 3) := by decide +kernel
theorem dX10_yieldsOf_67 : decode cX10_yieldsOf 67 = .ok (.iload 4, 2) := by decide +kernel
theorem dX10_yieldsOf_69 : decode cX10_yieldsOf 69 = .ok (.iaload, 1) := by decide +kernel
theorem dX10_yieldsOf_70 : decode cX10_yieldsOf 70 = .ok (.ineg, 1) := by decide +kernel
theorem dX10_yieldsOf_71 : decode cX10_yieldsOf 71 = .ok (.iadd, 1) := by decide +kernel
theorem dX10_yieldsOf_72 : decode cX10_yieldsOf 72 = .ok (.istore_n 3, 1) := by decide +kernel
theorem dX10_yieldsOf_73 : decode cX10_yieldsOf 73 = .ok (.iinc 4 1, 3) := by decide +kernel
theorem dX10_yieldsOf_76 : decode cX10_yieldsOf 76 = .ok (.goto (-68), 3) := by decide +kernel
theorem dX10_yieldsOf_79 : decode cX10_yieldsOf 79 = .ok (.iload_n 3, 1) := by decide +kernel
theorem dX10_yieldsOf_80 : decode cX10_yieldsOf 80 = .ok (.ifCond .ge 7, 3) := by decide +kernel
theorem dX10_yieldsOf_83 : decode cX10_yieldsOf 83 = .ok (.iconst 0, 1) := by decide +kernel
theorem dX10_yieldsOf_84 : decode cX10_yieldsOf 84 = .ok (.goto 4, 3) := by decide +kernel
theorem dX10_yieldsOf_87 : decode cX10_yieldsOf 87 = .ok (.iload_n 3, 1) := by decide +kernel
theorem dX10_yieldsOf_88 : decode cX10_yieldsOf 88 = .ok (.ireturn, 1) := by decide +kernel
theorem dX10_isFree_0 : decode cX10_isFree 0 = .ok (.aload_n 0, 1) := by decide +kernel
theorem dX10_isFree_1 : decode cX10_isFree 1 = .ok (.getfield 26, 3) := by decide +kernel
theorem dX10_isFree_4 : decode cX10_isFree 4 = .ok (.iload_n 1, 1) := by decide +kernel
theorem dX10_isFree_5 : decode cX10_isFree 5 = .ok (.iaload, 1) := by decide +kernel
theorem dX10_isFree_6 : decode cX10_isFree 6 = .ok (.iconst 2, 1) := by decide +kernel
theorem dX10_isFree_7 : decode cX10_isFree 7 = .ok (.if_icmp .eq 25, 3) := by decide +kernel
theorem dX10_isFree_10 : decode cX10_isFree 10 = .ok (.aload_n 0, 1) := by decide +kernel
theorem dX10_isFree_11 : decode cX10_isFree 11 = .ok (.getfield 26, 3) := by decide +kernel
theorem dX10_isFree_14 : decode cX10_isFree 14 = .ok (.iload_n 1, 1) := by decide +kernel
theorem dX10_isFree_15 : decode cX10_isFree 15 = .ok (.iaload, 1) := by decide +kernel
theorem dX10_isFree_16 : decode cX10_isFree 16 = .ok (.iconst 5, 1) := by decide +kernel
theorem dX10_isFree_17 : decode cX10_isFree 17 = .ok (.if_icmp .eq 15, 3) := by decide +kernel
theorem dX10_isFree_20 : decode cX10_isFree 20 = .ok (.aload_n 0, 1) := by decide +kernel
theorem dX10_isFree_21 : decode cX10_isFree 21 = .ok (.aload_n 0, 1) := by decide +kernel
theorem dX10_isFree_22 : decode cX10_isFree 22 = .ok (.getfield 16, 3) := by decide +kernel
theorem dX10_isFree_25 : decode cX10_isFree 25 = .ok (.iload_n 2, 1) := by decide +kernel
theorem dX10_isFree_26 : decode cX10_isFree 26 = .ok (.invokevirtual 245, 3) := by decide +kernel
theorem dX10_isFree_29 : decode cX10_isFree 29 = .ok (.ifCond .ne 7, 3) := by decide +kernel
theorem dX10_isFree_32 : decode cX10_isFree 32 = .ok (.iconst 1, 1) := by decide +kernel
theorem dX10_isFree_33 : decode cX10_isFree 33 = .ok (.goto 4, 3) := by decide +kernel
theorem dX10_isFree_36 : decode cX10_isFree 36 = .ok (.iconst 0, 1) := by decide +kernel
theorem dX10_isFree_37 : decode cX10_isFree 37 = .ok (.ireturn, 1) := by decide +kernel
theorem dX10_layFar_0 : decode cX10_layFar 0 = .ok (.iconst 0, 1) := by decide +kernel
theorem dX10_layFar_1 : decode cX10_layFar 1 = .ok (.istore_n 2, 1) := by decide +kernel
theorem dX10_layFar_2 : decode cX10_layFar 2 = .ok (.iload_n 2, 1) := by decide +kernel
theorem dX10_layFar_3 : decode cX10_layFar 3 = .ok (.bipush 16, 2) := by decide +kernel
theorem dX10_layFar_5 : decode cX10_layFar 5 = .ok (.if_icmp .ge 17, 3) := by decide +kernel
theorem dX10_layFar_8 : decode cX10_layFar 8 = .ok (.aload_n 0, 1) := by decide +kernel
theorem dX10_layFar_9 : decode cX10_layFar 9 = .ok (.getfield 96, 3) := by decide +kernel
theorem dX10_layFar_12 : decode cX10_layFar 12 = .ok (.iload_n 2, 1) := by decide +kernel
theorem dX10_layFar_13 : decode cX10_layFar 13 = .ok (.bipush (-5), 2) := by decide +kernel
theorem dX10_layFar_15 : decode cX10_layFar 15 = .ok (.iastore, 1) := by decide +kernel
theorem dX10_layFar_16 : decode cX10_layFar 16 = .ok (.iinc 2 1, 3) := by decide +kernel
theorem dX10_layFar_19 : decode cX10_layFar 19 = .ok (.goto (-17), 3) := by decide +kernel
theorem dX10_layFar_22 : decode cX10_layFar 22 = .ok (.iconst 0, 1) := by decide +kernel
theorem dX10_layFar_23 : decode cX10_layFar 23 = .ok (.istore_n 2, 1) := by decide +kernel
theorem dX10_layFar_24 : decode cX10_layFar 24 = .ok (.aload_n 0, 1) := by decide +kernel
theorem dX10_layFar_25 : decode cX10_layFar 25 = .ok (.iload_n 1, 1) := by decide +kernel
theorem dX10_layFar_26 : decode cX10_layFar 26 = .ok (.aload_n 0, 1) := by decide +kernel
theorem dX10_layFar_27 : decode cX10_layFar 27 = .ok (.getfield 35, 3) := by decide +kernel
theorem dX10_layFar_30 : decode cX10_layFar 30 = .ok (.iload_n 1, 1) := by decide +kernel
theorem dX10_layFar_31 : decode cX10_layFar 31 = .ok (.iaload, 1) := by decide +kernel
theorem dX10_layFar_32 : decode cX10_layFar 32 = .ok (.invokevirtual 330, 3) := by decide +kernel
theorem dX10_layFar_35 : decode cX10_layFar 35 = .ok (.ifCond .eq 29, 3) := by decide +kernel
theorem dX10_layFar_38 : decode cX10_layFar 38 = .ok (.aload_n 0, 1) := by decide +kernel
theorem dX10_layFar_39 : decode cX10_layFar 39 = .ok (.getfield 96, 3) := by decide +kernel
theorem dX10_layFar_42 : decode cX10_layFar 42 = .ok (.aload_n 0, 1) := by decide +kernel
theorem dX10_layFar_43 : decode cX10_layFar 43 = .ok (.getfield 35, 3) := by decide +kernel
theorem dX10_layFar_46 : decode cX10_layFar 46 = .ok (.iload_n 1, 1) := by decide +kernel
theorem dX10_layFar_47 : decode cX10_layFar 47 = .ok (.iaload, 1) := by decide +kernel
theorem dX10_layFar_48 : decode cX10_layFar 48 = .ok (.iconst 0, 1) := by decide +kernel
theorem dX10_layFar_49 : decode cX10_layFar 49 = .ok (.iastore, 1) := by decide +kernel
theorem dX10_layFar_50 : decode cX10_layFar 50 = .ok (.aload_n 0, 1) := by decide +kernel
theorem dX10_layFar_51 : decode cX10_layFar 51 = .ok (.getfield 99, 3) := by decide +kernel
theorem dX10_layFar_54 : decode cX10_layFar 54 = .ok (.iconst 0, 1) := by decide +kernel
theorem dX10_layFar_55 : decode cX10_layFar 55 = .ok (.aload_n 0, 1) := by decide +kernel
theorem dX10_layFar_56 : decode cX10_layFar 56 = .ok (.getfield 35, 3) := by decide +kernel
theorem dX10_layFar_59 : decode cX10_layFar 59 = .ok (.iload_n 1, 1) := by decide +kernel
theorem dX10_layFar_60 : decode cX10_layFar 60 = .ok (.iaload, 1) := by decide +kernel
theorem dX10_layFar_61 : decode cX10_layFar 61 = .ok (.iastore, 1) := by decide +kernel
theorem dX10_layFar_62 : decode cX10_layFar 62 = .ok (.iconst 1, 1) := by decide +kernel
theorem dX10_layFar_63 : decode cX10_layFar 63 = .ok (.istore_n 2, 1) := by decide +kernel
theorem dX10_layFar_64 : decode cX10_layFar 64 = .ok (.iconst 0, 1) := by decide +kernel
theorem dX10_layFar_65 : decode cX10_layFar 65 = .ok (.istore_n 3, 1) := by decide +kernel
theorem dX10_layFar_66 : decode cX10_layFar 66 = .ok (.iload_n 3, 1) := by decide +kernel
theorem dX10_layFar_67 : decode cX10_layFar 67 = .ok (.iload_n 2, 1) := by decide +kernel
theorem dX10_layFar_68 : decode cX10_layFar 68 = .ok (.if_icmp .ge 94, 3) := by decide +kernel
theorem dX10_layFar_71 : decode cX10_layFar 71 = .ok (.aload_n 0, 1) := by decide +kernel
theorem dX10_layFar_72 : decode cX10_layFar 72 = .ok (.getfield 99, 3) := by decide +kernel
theorem dX10_layFar_75 : decode cX10_layFar 75 = .ok (.iload_n 3, 1) := by decide +kernel
theorem dX10_layFar_76 : decode cX10_layFar 76 = .ok (.iaload, 1) := by decide +kernel
theorem dX10_layFar_77 : decode cX10_layFar 77 = .ok (.istore 4, 2) := by decide +kernel
theorem dX10_layFar_79 : decode cX10_layFar 79 = .ok (.iconst 0, 1) := by decide +kernel
theorem dX10_layFar_80 : decode cX10_layFar 80 = .ok (.istore 5, 2) := by decide +kernel
theorem dX10_layFar_82 : decode cX10_layFar 82 = .ok (.iload 5, 2) := by decide +kernel
theorem dX10_layFar_84 : decode cX10_layFar 84 = .ok (.bipush 16, 2) := by decide +kernel
theorem dX10_layFar_86 : decode cX10_layFar 86 = .ok (.if_icmp .ge 70, 3) := by decide +kernel
theorem dX10_layFar_89 : decode cX10_layFar 89 = .ok (.aload_n 0, 1) := by decide +kernel
theorem dX10_layFar_90 : decode cX10_layFar 90 = .ok (.iload 4, 2) := by decide +kernel
theorem dX10_layFar_92 : decode cX10_layFar 92 = .ok (.iload 5, 2) := by decide +kernel
theorem dX10_layFar_94 : decode cX10_layFar 94 = .ok (.invokevirtual 333, 3) := by decide +kernel
theorem dX10_layFar_97 : decode cX10_layFar 97 = .ok (.ifCond .eq 53, 3) := by decide +kernel
theorem dX10_layFar_100 : decode cX10_layFar 100 = .ok (.aload_n 0, 1) := by decide +kernel
theorem dX10_layFar_101 : decode cX10_layFar 101 = .ok (.getfield 96, 3) := by decide +kernel
theorem dX10_layFar_104 : decode cX10_layFar 104 = .ok (.iload 5, 2) := by decide +kernel
theorem dX10_layFar_106 : decode cX10_layFar 106 = .ok (.iaload, 1) := by decide +kernel
theorem dX10_layFar_107 : decode cX10_layFar 107 = .ok (.ifCond .ge 43, 3) := by decide +kernel
theorem dX10_layFar_110 : decode cX10_layFar 110 = .ok (.aload_n 0, 1) := by decide +kernel
theorem dX10_layFar_111 : decode cX10_layFar 111 = .ok (.iload_n 1, 1) := by decide +kernel
theorem dX10_layFar_112 : decode cX10_layFar 112 = .ok (.iload 5, 2) := by decide +kernel
theorem dX10_layFar_114 : decode cX10_layFar 114 = .ok (.invokevirtual 330, 3) := by decide +kernel
theorem dX10_layFar_117 : decode cX10_layFar 117 = .ok (.ifCond .ne 6, 3) := by decide +kernel
theorem dX10_layFar_120 : decode cX10_layFar 120 = .ok (.goto 30, 3) := by decide +kernel
theorem dX10_layFar_123 : decode cX10_layFar 123 = .ok (.aload_n 0, 1) := by decide +kernel
theorem dX10_layFar_124 : decode cX10_layFar 124 = .ok (.getfield 96, 3) := by decide +kernel
theorem dX10_layFar_127 : decode cX10_layFar 127 = .ok (.iload 5, 2) := by decide +kernel
theorem dX10_layFar_129 : decode cX10_layFar 129 = .ok (.aload_n 0, 1) := by decide +kernel
theorem dX10_layFar_130 : decode cX10_layFar 130 = .ok (.getfield 96, 3) := by decide +kernel
theorem dX10_layFar_133 : decode cX10_layFar 133 = .ok (.iload 4, 2) := by decide +kernel
theorem dX10_layFar_135 : decode cX10_layFar 135 = .ok (.iaload, 1) := by decide +kernel
theorem dX10_layFar_136 : decode cX10_layFar 136 = .ok (.iconst 1, 1) := by decide +kernel
theorem dX10_layFar_137 : decode cX10_layFar 137 = .ok (.iadd, 1) := by decide +kernel
theorem dX10_layFar_138 : decode cX10_layFar 138 = .ok (.iastore, 1) := by decide +kernel
theorem dX10_layFar_139 : decode cX10_layFar 139 = .ok (.aload_n 0, 1) := by decide +kernel
theorem dX10_layFar_140 : decode cX10_layFar 140 = .ok (.getfield 99, 3) := by decide +kernel
theorem dX10_layFar_143 : decode cX10_layFar 143 = .ok (.iload_n 2, 1) := by decide +kernel
theorem dX10_layFar_144 : decode cX10_layFar 144 = .ok (.iload 5, 2) := by decide +kernel
theorem dX10_layFar_146 : decode cX10_layFar 146 = .ok (.iastore, 1) := by decide +kernel
theorem dX10_layFar_147 : decode cX10_layFar 147 = .ok (.iinc 2 1, 3) := by decide +kernel
theorem dX10_layFar_150 : decode cX10_layFar 150 = .ok (.iinc 5 1, 3) := by decide +kernel
theorem dX10_layFar_153 : decode cX10_layFar 153 = .ok (.goto (-71), 3) := by decide +kernel
theorem dX10_layFar_156 : decode cX10_layFar 156 = .ok (.iinc 3 1, 3) := by decide +kernel
theorem dX10_layFar_159 : decode cX10_layFar 159 = .ok (.goto (-93), 3) := by decide +kernel
theorem dX10_layFar_162 : decode cX10_layFar 162 = .ok (.return_, 1) := by decide +kernel
theorem dX10_layWay_0 : decode cX10_layWay 0 = .ok (.aload_n 0, 1) := by decide +kernel
theorem dX10_layWay_1 : decode cX10_layWay 1 = .ok (.iload_n 1, 1) := by decide +kernel
theorem dX10_layWay_2 : decode cX10_layWay 2 = .ok (.invokevirtual 336, 3) := by decide +kernel
theorem dX10_layWay_5 : decode cX10_layWay 5 = .ok (.aload_n 0, 1) := by decide +kernel
theorem dX10_layWay_6 : decode cX10_layWay 6 = .ok (.iconst 0, 1) := by decide +kernel
theorem dX10_layWay_7 : decode cX10_layWay 7 = .ok (.putfield 105, 3) := by decide +kernel
theorem dX10_layWay_10 : decode cX10_layWay 10 = .ok (.aload_n 0, 1) := by decide +kernel
theorem dX10_layWay_11 : decode cX10_layWay 11 = .ok (.getfield 32, 3) := by decide +kernel
theorem dX10_layWay_14 : decode cX10_layWay 14 = .ok (.iload_n 1, 1) := by decide +kernel
theorem dX10_layWay_15 : decode cX10_layWay 15 = .ok (.iaload, 1) := by decide +kernel
theorem dX10_layWay_16 : decode cX10_layWay 16 = .ok (.istore_n 2, 1) := by decide +kernel
theorem dX10_layWay_17 : decode cX10_layWay 17 = .ok (.aload_n 0, 1) := by decide +kernel
theorem dX10_layWay_18 : decode cX10_layWay 18 = .ok (.getfield 96, 3) := by decide +kernel
theorem dX10_layWay_21 : decode cX10_layWay 21 = .ok (.iload_n 2, 1) := by decide +kernel
theorem dX10_layWay_22 : decode cX10_layWay 22 = .ok (.iaload, 1) := by decide +kernel
theorem dX10_layWay_23 : decode cX10_layWay 23 = .ok (.ifCond .ge 4, 3) := by decide +kernel
theorem dX10_layWay_26 : decode cX10_layWay 26 = .ok (.return_, 1) := by decide +kernel
theorem dX10_layWay_27 : decode cX10_layWay 27 = .ok (.aload_n 0, 1) := by decide +kernel
theorem dX10_layWay_28 : decode cX10_layWay 28 = .ok (.getfield 102, 3) := by decide +kernel
theorem dX10_layWay_31 : decode cX10_layWay 31 = .ok (.aload_n 0, 1) := by decide +kernel
theorem dX10_layWay_32 : decode cX10_layWay 32 = .ok (.getfield 105, 3) := by decide +kernel
theorem dX10_layWay_35 : decode cX10_layWay 35 = .ok (.iload_n 2, 1) := by decide +kernel
theorem dX10_layWay_36 : decode cX10_layWay 36 = .ok (.iastore, 1) := by decide +kernel
theorem dX10_layWay_37 : decode cX10_layWay 37 = .ok (.aload_n 0, 1) := by decide +kernel
theorem dX10_layWay_38 : decode cX10_layWay 38 = .ok (.dup, 1) := by decide +kernel
theorem dX10_layWay_39 : decode cX10_layWay 39 = .ok (.getfield 105, 3) := by decide +kernel
theorem dX10_layWay_42 : decode cX10_layWay 42 = .ok (.iconst 1, 1) := by decide +kernel
theorem dX10_layWay_43 : decode cX10_layWay 43 = .ok (.iadd, 1) := by decide +kernel
theorem dX10_layWay_44 : decode cX10_layWay 44 = .ok (.putfield 105, 3) := by decide +kernel
theorem dX10_layWay_47 : decode cX10_layWay 47 = .ok (.aload_n 0, 1) := by decide +kernel
theorem dX10_layWay_48 : decode cX10_layWay 48 = .ok (.getfield 96, 3) := by decide +kernel
theorem dX10_layWay_51 : decode cX10_layWay 51 = .ok (.iload_n 2, 1) := by decide +kernel
theorem dX10_layWay_52 : decode cX10_layWay 52 = .ok (.iaload, 1) := by decide +kernel
theorem dX10_layWay_53 : decode cX10_layWay 53 = .ok (.ifCond .ne 4, 3) := by decide +kernel
theorem dX10_layWay_56 : decode cX10_layWay 56 = .ok (.return_, 1) := by decide +kernel
theorem dX10_layWay_57 : decode cX10_layWay 57 = .ok (.iconst 0, 1) := by decide +kernel
theorem dX10_layWay_58 : decode cX10_layWay 58 = .ok (.istore_n 3, 1) := by decide +kernel
theorem dX10_layWay_59 : decode cX10_layWay 59 = .ok (.aload_n 0, 1) := by decide +kernel
theorem dX10_layWay_60 : decode cX10_layWay 60 = .ok (.iload_n 2, 1) := by decide +kernel
theorem dX10_layWay_61 : decode cX10_layWay 61 = .ok (.iload_n 3, 1) := by decide +kernel
theorem dX10_layWay_62 : decode cX10_layWay 62 = .ok (.invokevirtual 333, 3) := by decide +kernel
theorem dX10_layWay_65 : decode cX10_layWay 65 = .ok (.ifCond .eq 20, 3) := by decide +kernel
theorem dX10_layWay_68 : decode cX10_layWay 68 = .ok (.aload_n 0, 1) := by decide +kernel
theorem dX10_layWay_69 : decode cX10_layWay 69 = .ok (.getfield 96, 3) := by decide +kernel
theorem dX10_layWay_72 : decode cX10_layWay 72 = .ok (.iload_n 3, 1) := by decide +kernel
theorem dX10_layWay_73 : decode cX10_layWay 73 = .ok (.iaload, 1) := by decide +kernel
theorem dX10_layWay_74 : decode cX10_layWay 74 = .ok (.aload_n 0, 1) := by decide +kernel
theorem dX10_layWay_75 : decode cX10_layWay 75 = .ok (.getfield 96, 3) := by decide +kernel
theorem dX10_layWay_78 : decode cX10_layWay 78 = .ok (.iload_n 2, 1) := by decide +kernel
theorem dX10_layWay_79 : decode cX10_layWay 79 = .ok (.iaload, 1) := by decide +kernel
theorem dX10_layWay_80 : decode cX10_layWay 80 = .ok (.iconst 1, 1) := by decide +kernel
theorem dX10_layWay_81 : decode cX10_layWay 81 = .ok (.isub, 1) := by decide +kernel
theorem dX10_layWay_82 : decode cX10_layWay 82 = .ok (.if_icmp .eq 9, 3) := by decide +kernel
theorem dX10_layWay_85 : decode cX10_layWay 85 = .ok (.iinc 3 1, 3) := by decide +kernel
theorem dX10_layWay_88 : decode cX10_layWay 88 = .ok (.goto (-29), 3) := by decide +kernel
theorem dX10_layWay_91 : decode cX10_layWay 91 = .ok (.iload_n 3, 1) := by decide +kernel
theorem dX10_layWay_92 : decode cX10_layWay 92 = .ok (.istore_n 2, 1) := by decide +kernel
theorem dX10_layWay_93 : decode cX10_layWay 93 = .ok (.goto (-66), 3) := by decide +kernel
theorem dX10_waySet_0 : decode cX10_waySet 0 = .ok (.aload_n 0, 1) := by decide +kernel
theorem dX10_waySet_1 : decode cX10_waySet 1 = .ok (.iload_n 1, 1) := by decide +kernel
theorem dX10_waySet_2 : decode cX10_waySet 2 = .ok (.invokevirtual 339, 3) := by decide +kernel
theorem dX10_waySet_5 : decode cX10_waySet 5 = .ok (.iconst 0, 1) := by decide +kernel
theorem dX10_waySet_6 : decode cX10_waySet 6 = .ok (.istore_n 2, 1) := by decide +kernel
theorem dX10_waySet_7 : decode cX10_waySet 7 = .ok (.iconst 0, 1) := by decide +kernel
theorem dX10_waySet_8 : decode cX10_waySet 8 = .ok (.istore_n 3, 1) := by decide +kernel
theorem dX10_waySet_9 : decode cX10_waySet 9 = .ok (.iload_n 3, 1) := by decide +kernel
theorem dX10_waySet_10 : decode cX10_waySet 10 = .ok (.aload_n 0, 1) := by decide +kernel
theorem dX10_waySet_11 : decode cX10_waySet 11 = .ok (.getfield 105, 3) := by decide +kernel
theorem dX10_waySet_14 : decode cX10_waySet 14 = .ok (.if_icmp .ge 20, 3) := by decide +kernel
theorem dX10_waySet_17 : decode cX10_waySet 17 = .ok (.iload_n 2, 1) := by decide +kernel
theorem dX10_waySet_18 : decode cX10_waySet 18 = .ok (.iconst 1, 1) := by decide +kernel
theorem dX10_waySet_19 : decode cX10_waySet 19 = .ok (.aload_n 0, 1) := by decide +kernel
theorem dX10_waySet_20 : decode cX10_waySet 20 = .ok (.getfield 102, 3) := by decide +kernel
theorem dX10_waySet_23 : decode cX10_waySet 23 = .ok (.iload_n 3, 1) := by decide +kernel
theorem dX10_waySet_24 : decode cX10_waySet 24 = .ok (.iaload, 1) := by decide +kernel
theorem dX10_waySet_25 : decode cX10_waySet 25 = .ok (.ishl, 1) := by decide +kernel
theorem dX10_waySet_26 : decode cX10_waySet 26 = .ok (.ior, 1) := by decide +kernel
theorem dX10_waySet_27 : decode cX10_waySet 27 = .ok (.istore_n 2, 1) := by decide +kernel
theorem dX10_waySet_28 : decode cX10_waySet 28 = .ok (.iinc 3 1, 3) := by decide +kernel
theorem dX10_waySet_31 : decode cX10_waySet 31 = .ok (.goto (-22), 3) := by decide +kernel
theorem dX10_waySet_34 : decode cX10_waySet 34 = .ok (.iload_n 2, 1) := by decide +kernel
theorem dX10_waySet_35 : decode cX10_waySet 35 = .ok (.ireturn, 1) := by decide +kernel
theorem dX10_treadsBy_0 : decode cX10_treadsBy 0 = .ok (.iload_n 2, 1) := by decide +kernel
theorem dX10_treadsBy_1 : decode cX10_treadsBy 1 = .ok (.ifCond .ne 5, 3) := by decide +kernel
theorem dX10_treadsBy_4 : decode cX10_treadsBy 4 = .ok (.iconst 0, 1) := by decide +kernel
theorem dX10_treadsBy_5 : decode cX10_treadsBy 5 = .ok (.ireturn, 1) := by decide +kernel
theorem dX10_treadsBy_6 : decode cX10_treadsBy 6 = .ok (.aload_n 0, 1) := by decide +kernel
theorem dX10_treadsBy_7 : decode cX10_treadsBy 7 = .ok (.iload_n 2, 1) := by decide +kernel
theorem dX10_treadsBy_8 : decode cX10_treadsBy 8 = .ok (.iload_n 3, 1) := by decide +kernel
theorem dX10_treadsBy_9 : decode cX10_treadsBy 9 = .ok (.invokevirtual 245, 3) := by decide +kernel
theorem dX10_treadsBy_12 : decode cX10_treadsBy 12 = .ok (.ifCond .eq 7, 3) := by decide +kernel
theorem dX10_treadsBy_15 : decode cX10_treadsBy 15 = .ok (.iconst 1, 1) := by decide +kernel
theorem dX10_treadsBy_16 : decode cX10_treadsBy 16 = .ok (.goto 4, 3) := by decide +kernel
theorem dX10_treadsBy_19 : decode cX10_treadsBy 19 = .ok (.iconst 0, 1) := by decide +kernel
theorem dX10_treadsBy_20 : decode cX10_treadsBy 20 = .ok (.istore 5, 2) := by decide +kernel
theorem dX10_treadsBy_22 : decode cX10_treadsBy 22 = .ok (.aload_n 0, 1) := by decide +kernel
theorem dX10_treadsBy_23 : decode cX10_treadsBy 23 = .ok (.getfield 26, 3) := by decide +kernel
theorem dX10_treadsBy_26 : decode cX10_treadsBy 26 = .ok (.iload_n 1, 1) := by decide +kernel
theorem dX10_treadsBy_27 : decode cX10_treadsBy 27 = .ok (.iaload, 1) := by decide +kernel
theorem dX10_treadsBy_28 : decode cX10_treadsBy 28 = .ok (.tableswitch 152 1 6 #[40, 152, 45, 60, 86, 109], 40) := by decide +kernel
theorem dX10_treadsBy_68 : decode cX10_treadsBy 68 = .ok (.iconst 2, 1) := by decide +kernel
theorem dX10_treadsBy_69 : decode cX10_treadsBy 69 = .ok (.iload 5, 2) := by decide +kernel
theorem dX10_treadsBy_71 : decode cX10_treadsBy 71 = .ok (.imul, 1) := by decide +kernel
theorem dX10_treadsBy_72 : decode cX10_treadsBy 72 = .ok (.ireturn, 1) := by decide +kernel
theorem dX10_treadsBy_73 : decode cX10_treadsBy 73 = .ok (.iload 4, 2) := by decide +kernel
theorem dX10_treadsBy_75 : decode cX10_treadsBy 75 = .ok (.iconst 2, 1) := by decide +kernel
theorem dX10_treadsBy_76 : decode cX10_treadsBy 76 = .ok (.irem, 1) := by decide +kernel
theorem dX10_treadsBy_77 : decode cX10_treadsBy 77 = .ok (.iconst 1, 1) := by decide +kernel
theorem dX10_treadsBy_78 : decode cX10_treadsBy 78 = .ok (.if_icmp .ne 8, 3) := by decide +kernel
theorem dX10_treadsBy_81 : decode cX10_treadsBy 81 = .ok (.iload 5, 2) := by decide +kernel
theorem dX10_treadsBy_83 : decode cX10_treadsBy 83 = .ok (.goto 4, 3) := by decide +kernel
theorem dX10_treadsBy_86 : decode cX10_treadsBy 86 = .ok (.iconst 0, 1) := by decide +kernel
theorem dX10_treadsBy_87 : decode cX10_treadsBy 87 = .ok (.ireturn, 1) := by decide +kernel
theorem dX10_treadsBy_88 : decode cX10_treadsBy 88 = .ok (.iconst 2, 1) := by decide +kernel
theorem dX10_treadsBy_89 : decode cX10_treadsBy 89 = .ok (.iload 5, 2) := by decide +kernel
theorem dX10_treadsBy_91 : decode cX10_treadsBy 91 = .ok (.imul, 1) := by decide +kernel
theorem dX10_treadsBy_92 : decode cX10_treadsBy 92 = .ok (.iload_n 3, 1) := by decide +kernel
theorem dX10_treadsBy_93 : decode cX10_treadsBy 93 = .ok (.aload_n 0, 1) := by decide +kernel
theorem dX10_treadsBy_94 : decode cX10_treadsBy 94 = .ok (.getfield 35, 3) := by decide +kernel
theorem dX10_treadsBy_97 : decode cX10_treadsBy 97 = .ok (.iload_n 1, 1) := by decide +kernel
theorem dX10_treadsBy_98 : decode cX10_treadsBy 98 = .ok (.iaload, 1) := by decide +kernel
theorem dX10_treadsBy_99 : decode cX10_treadsBy 99 = .ok (.if_icmp .ne 12, 3) := by decide +kernel
theorem dX10_treadsBy_102 : decode cX10_treadsBy 102 = .ok (.aload_n 0, 1) := by decide +kernel
theorem dX10_treadsBy_103 : decode cX10_treadsBy 103 = .ok (.getfield 29, 3) := by decide +kernel
theorem dX10_treadsBy_106 : decode cX10_treadsBy 106 = .ok (.iload_n 1, 1) := by decide +kernel
theorem dX10_treadsBy_107 : decode cX10_treadsBy 107 = .ok (.iaload, 1) := by decide +kernel
theorem dX10_treadsBy_108 : decode cX10_treadsBy 108 = .ok (.goto 4, 3) := by decide +kernel
theorem dX10_treadsBy_111 : decode cX10_treadsBy 111 = .ok (.iconst 0, 1) := by decide +kernel
theorem dX10_treadsBy_112 : decode cX10_treadsBy 112 = .ok (.iadd, 1) := by decide +kernel
theorem dX10_treadsBy_113 : decode cX10_treadsBy 113 = .ok (.ireturn, 1) := by decide +kernel
theorem dX10_treadsBy_114 : decode cX10_treadsBy 114 = .ok (.iload 5, 2) := by decide +kernel
theorem dX10_treadsBy_116 : decode cX10_treadsBy 116 = .ok (.aload_n 0, 1) := by decide +kernel
theorem dX10_treadsBy_117 : decode cX10_treadsBy 117 = .ok (.iload_n 3, 1) := by decide +kernel
theorem dX10_treadsBy_118 : decode cX10_treadsBy 118 = .ok (.aload_n 0, 1) := by decide +kernel
theorem dX10_treadsBy_119 : decode cX10_treadsBy 119 = .ok (.getfield 35, 3) := by decide +kernel
theorem dX10_treadsBy_122 : decode cX10_treadsBy 122 = .ok (.iload_n 1, 1) := by decide +kernel
theorem dX10_treadsBy_123 : decode cX10_treadsBy 123 = .ok (.iaload, 1) := by decide +kernel
theorem dX10_treadsBy_124 : decode cX10_treadsBy 124 = .ok (.invokevirtual 333, 3) := by decide +kernel
theorem dX10_treadsBy_127 : decode cX10_treadsBy 127 = .ok (.ifCond .eq 7, 3) := by decide +kernel
theorem dX10_treadsBy_130 : decode cX10_treadsBy 130 = .ok (.iconst 1, 1) := by decide +kernel
theorem dX10_treadsBy_131 : decode cX10_treadsBy 131 = .ok (.goto 4, 3) := by decide +kernel
theorem dX10_treadsBy_134 : decode cX10_treadsBy 134 = .ok (.iconst 0, 1) := by decide +kernel
theorem dX10_treadsBy_135 : decode cX10_treadsBy 135 = .ok (.iadd, 1) := by decide +kernel
theorem dX10_treadsBy_136 : decode cX10_treadsBy 136 = .ok (.ireturn, 1) := by decide +kernel
theorem dX10_treadsBy_137 : decode cX10_treadsBy 137 = .ok (.iload 4, 2) := by decide +kernel
theorem dX10_treadsBy_139 : decode cX10_treadsBy 139 = .ok (.iconst 2, 1) := by decide +kernel
theorem dX10_treadsBy_140 : decode cX10_treadsBy 140 = .ok (.irem, 1) := by decide +kernel
theorem dX10_treadsBy_141 : decode cX10_treadsBy 141 = .ok (.iconst 1, 1) := by decide +kernel
theorem dX10_treadsBy_142 : decode cX10_treadsBy 142 = .ok (.if_icmp .ne 8, 3) := by decide +kernel
theorem dX10_treadsBy_145 : decode cX10_treadsBy 145 = .ok (.iload 5, 2) := by decide +kernel
theorem dX10_treadsBy_147 : decode cX10_treadsBy 147 = .ok (.goto 4, 3) := by decide +kernel
theorem dX10_treadsBy_150 : decode cX10_treadsBy 150 = .ok (.iconst 0, 1) := by decide +kernel
theorem dX10_treadsBy_151 : decode cX10_treadsBy 151 = .ok (.iload_n 3, 1) := by decide +kernel
theorem dX10_treadsBy_152 : decode cX10_treadsBy 152 = .ok (.aload_n 0, 1) := by decide +kernel
theorem dX10_treadsBy_153 : decode cX10_treadsBy 153 = .ok (.getfield 32, 3) := by decide +kernel
theorem dX10_treadsBy_156 : decode cX10_treadsBy 156 = .ok (.iload_n 1, 1) := by decide +kernel
theorem dX10_treadsBy_157 : decode cX10_treadsBy 157 = .ok (.iaload, 1) := by decide +kernel
theorem dX10_treadsBy_158 : decode cX10_treadsBy 158 = .ok (.if_icmp .ne 19, 3) := by decide +kernel
theorem dX10_treadsBy_161 : decode cX10_treadsBy 161 = .ok (.aload_n 0, 1) := by decide +kernel
theorem dX10_treadsBy_162 : decode cX10_treadsBy 162 = .ok (.getfield 38, 3) := by decide +kernel
theorem dX10_treadsBy_165 : decode cX10_treadsBy 165 = .ok (.iconst 4, 1) := by decide +kernel
theorem dX10_treadsBy_166 : decode cX10_treadsBy 166 = .ok (.iload_n 1, 1) := by decide +kernel
theorem dX10_treadsBy_167 : decode cX10_treadsBy 167 = .ok (.imul, 1) := by decide +kernel
theorem dX10_treadsBy_168 : decode cX10_treadsBy 168 = .ok (.iload 4, 2) := by decide +kernel
theorem dX10_treadsBy_170 : decode cX10_treadsBy 170 = .ok (.iconst 4, 1) := by decide +kernel
theorem dX10_treadsBy_171 : decode cX10_treadsBy 171 = .ok (.irem, 1) := by decide +kernel
theorem dX10_treadsBy_172 : decode cX10_treadsBy 172 = .ok (.iadd, 1) := by decide +kernel
theorem dX10_treadsBy_173 : decode cX10_treadsBy 173 = .ok (.iaload, 1) := by decide +kernel
theorem dX10_treadsBy_174 : decode cX10_treadsBy 174 = .ok (.goto 4, 3) := by decide +kernel
theorem dX10_treadsBy_177 : decode cX10_treadsBy 177 = .ok (.iconst 0, 1) := by decide +kernel
theorem dX10_treadsBy_178 : decode cX10_treadsBy 178 = .ok (.iadd, 1) := by decide +kernel
theorem dX10_treadsBy_179 : decode cX10_treadsBy 179 = .ok (.ireturn, 1) := by decide +kernel
theorem dX10_treadsBy_180 : decode cX10_treadsBy 180 = .ok (.iload 5, 2) := by decide +kernel
theorem dX10_treadsBy_182 : decode cX10_treadsBy 182 = .ok (.ireturn, 1) := by decide +kernel
theorem dX10_layWorn_0 : decode cX10_layWorn 0 = .ok (.iconst 0, 1) := by decide +kernel
theorem dX10_layWorn_1 : decode cX10_layWorn 1 = .ok (.istore_n 1, 1) := by decide +kernel
theorem dX10_layWorn_2 : decode cX10_layWorn 2 = .ok (.iload_n 1, 1) := by decide +kernel
theorem dX10_layWorn_3 : decode cX10_layWorn 3 = .ok (.aload_n 0, 1) := by decide +kernel
theorem dX10_layWorn_4 : decode cX10_layWorn 4 = .ok (.getfield 7, 3) := by decide +kernel
theorem dX10_layWorn_7 : decode cX10_layWorn 7 = .ok (.if_icmp .ge 80, 3) := by decide +kernel
theorem dX10_layWorn_10 : decode cX10_layWorn 10 = .ok (.aload_n 0, 1) := by decide +kernel
theorem dX10_layWorn_11 : decode cX10_layWorn 11 = .ok (.iload_n 1, 1) := by decide +kernel
theorem dX10_layWorn_12 : decode cX10_layWorn 12 = .ok (.invokevirtual 342, 3) := by decide +kernel
theorem dX10_layWorn_15 : decode cX10_layWorn 15 = .ok (.istore_n 2, 1) := by decide +kernel
theorem dX10_layWorn_16 : decode cX10_layWorn 16 = .ok (.iconst 0, 1) := by decide +kernel
theorem dX10_layWorn_17 : decode cX10_layWorn 17 = .ok (.istore_n 3, 1) := by decide +kernel
theorem dX10_layWorn_18 : decode cX10_layWorn 18 = .ok (.iload_n 3, 1) := by decide +kernel
theorem dX10_layWorn_19 : decode cX10_layWorn 19 = .ok (.bipush 16, 2) := by decide +kernel
theorem dX10_layWorn_21 : decode cX10_layWorn 21 = .ok (.if_icmp .ge 60, 3) := by decide +kernel
theorem dX10_layWorn_24 : decode cX10_layWorn 24 = .ok (.aload_n 0, 1) := by decide +kernel
theorem dX10_layWorn_25 : decode cX10_layWorn 25 = .ok (.iload_n 3, 1) := by decide +kernel
theorem dX10_layWorn_26 : decode cX10_layWorn 26 = .ok (.iload_n 1, 1) := by decide +kernel
theorem dX10_layWorn_27 : decode cX10_layWorn 27 = .ok (.invokevirtual 345, 3) := by decide +kernel
theorem dX10_layWorn_30 : decode cX10_layWorn 30 = .ok (.istore 4, 2) := by decide +kernel
theorem dX10_layWorn_32 : decode cX10_layWorn 32 = .ok (.iconst 0, 1) := by decide +kernel
theorem dX10_layWorn_33 : decode cX10_layWorn 33 = .ok (.istore 5, 2) := by decide +kernel
theorem dX10_layWorn_35 : decode cX10_layWorn 35 = .ok (.iload 5, 2) := by decide +kernel
theorem dX10_layWorn_37 : decode cX10_layWorn 37 = .ok (.iconst 4, 1) := by decide +kernel
theorem dX10_layWorn_38 : decode cX10_layWorn 38 = .ok (.if_icmp .ge 37, 3) := by decide +kernel
theorem dX10_layWorn_41 : decode cX10_layWorn 41 = .ok (.aload_n 0, 1) := by decide +kernel
theorem dX10_layWorn_42 : decode cX10_layWorn 42 = .ok (.getfield 108, 3) := by decide +kernel
theorem dX10_layWorn_45 : decode cX10_layWorn 45 = .ok (.bipush 64, 2) := by decide +kernel
theorem dX10_layWorn_47 : decode cX10_layWorn 47 = .ok (.iload_n 1, 1) := by decide +kernel
theorem dX10_layWorn_48 : decode cX10_layWorn 48 = .ok (.imul, 1) := by decide +kernel
theorem dX10_layWorn_49 : decode cX10_layWorn 49 = .ok (.iconst 4, 1) := by decide +kernel
theorem dX10_layWorn_50 : decode cX10_layWorn 50 = .ok (.iload_n 3, 1) := by decide +kernel
theorem dX10_layWorn_51 : decode cX10_layWorn 51 = .ok (.imul, 1) := by decide +kernel
theorem dX10_layWorn_52 : decode cX10_layWorn 52 = .ok (.iadd, 1) := by decide +kernel
theorem dX10_layWorn_53 : decode cX10_layWorn 53 = .ok (.iload 5, 2) := by decide +kernel
theorem dX10_layWorn_55 : decode cX10_layWorn 55 = .ok (.iadd, 1) := by decide +kernel
theorem dX10_layWorn_56 : decode cX10_layWorn 56 = .ok (.iload 4, 2) := by decide +kernel
theorem dX10_layWorn_58 : decode cX10_layWorn 58 = .ok (.aload_n 0, 1) := by decide +kernel
theorem dX10_layWorn_59 : decode cX10_layWorn 59 = .ok (.iload_n 1, 1) := by decide +kernel
theorem dX10_layWorn_60 : decode cX10_layWorn 60 = .ok (.iload_n 2, 1) := by decide +kernel
theorem dX10_layWorn_61 : decode cX10_layWorn 61 = .ok (.iload_n 3, 1) := by decide +kernel
theorem dX10_layWorn_62 : decode cX10_layWorn 62 = .ok (.iload 5, 2) := by decide +kernel
theorem dX10_layWorn_64 : decode cX10_layWorn 64 = .ok (.invokevirtual 348, 3) := by decide +kernel
theorem dX10_layWorn_67 : decode cX10_layWorn 67 = .ok (.imul, 1) := by decide +kernel
theorem dX10_layWorn_68 : decode cX10_layWorn 68 = .ok (.iastore, 1) := by decide +kernel
theorem dX10_layWorn_69 : decode cX10_layWorn 69 = .ok (.iinc 5 1, 3) := by decide +kernel
theorem dX10_layWorn_72 : decode cX10_layWorn 72 = .ok (.goto (-37), 3) := by decide +kernel
theorem dX10_layWorn_75 : decode cX10_layWorn 75 = .ok (.iinc 3 1, 3) := by decide +kernel
theorem dX10_layWorn_78 : decode cX10_layWorn 78 = .ok (.goto (-60), 3) := by decide +kernel
theorem dX10_layWorn_81 : decode cX10_layWorn 81 = .ok (.iinc 1 1, 3) := by decide +kernel
theorem dX10_layWorn_84 : decode cX10_layWorn 84 = .ok (.goto (-82), 3) := by decide +kernel
theorem dX10_layWorn_87 : decode cX10_layWorn 87 = .ok (.return_, 1) := by decide +kernel
theorem dX10_here_0 : decode cX10_here 0 = .ok (.bipush 63, 2) := by decide +kernel
theorem dX10_here_2 : decode cX10_here 2 = .ok (.aload_n 0, 1) := by decide +kernel
theorem dX10_here_3 : decode cX10_here 3 = .ok (.getfield 13, 3) := by decide +kernel
theorem dX10_here_6 : decode cX10_here 6 = .ok (.iconst (-1), 1) := by decide +kernel
theorem dX10_here_7 : decode cX10_here 7 = .ok (.ixor, 1) := by decide +kernel
theorem dX10_here_8 : decode cX10_here 8 = .ok (.iand, 1) := by decide +kernel
theorem dX10_here_9 : decode cX10_here 9 = .ok (.ireturn, 1) := by decide +kernel
theorem dX10_goDay_0 : decode cX10_goDay 0 = .ok (.iconst 0, 1) := by decide +kernel
theorem dX10_goDay_1 : decode cX10_goDay 1 = .ok (.istore_n 2, 1) := by decide +kernel
theorem dX10_goDay_2 : decode cX10_goDay 2 = .ok (.iload_n 2, 1) := by decide +kernel
theorem dX10_goDay_3 : decode cX10_goDay 3 = .ok (.bipush 16, 2) := by decide +kernel
theorem dX10_goDay_5 : decode cX10_goDay 5 = .ok (.if_icmp .ge 87, 3) := by decide +kernel
theorem dX10_goDay_8 : decode cX10_goDay 8 = .ok (.aload_n 0, 1) := by decide +kernel
theorem dX10_goDay_9 : decode cX10_goDay 9 = .ok (.getfield 22, 3) := by decide +kernel
theorem dX10_goDay_12 : decode cX10_goDay 12 = .ok (.iload_n 2, 1) := by decide +kernel
theorem dX10_goDay_13 : decode cX10_goDay 13 = .ok (.iaload, 1) := by decide +kernel
theorem dX10_goDay_14 : decode cX10_goDay 14 = .ok (.istore_n 3, 1) := by decide +kernel
theorem dX10_goDay_15 : decode cX10_goDay 15 = .ok (.iconst 0, 1) := by decide +kernel
theorem dX10_goDay_16 : decode cX10_goDay 16 = .ok (.istore 4, 2) := by decide +kernel
theorem dX10_goDay_18 : decode cX10_goDay 18 = .ok (.iload 4, 2) := by decide +kernel
theorem dX10_goDay_20 : decode cX10_goDay 20 = .ok (.aload_n 0, 1) := by decide +kernel
theorem dX10_goDay_21 : decode cX10_goDay 21 = .ok (.getfield 7, 3) := by decide +kernel
theorem dX10_goDay_24 : decode cX10_goDay 24 = .ok (.if_icmp .ge 47, 3) := by decide +kernel
theorem dX10_goDay_27 : decode cX10_goDay 27 = .ok (.iload_n 3, 1) := by decide +kernel
theorem dX10_goDay_28 : decode cX10_goDay 28 = .ok (.aload_n 0, 1) := by decide +kernel
theorem dX10_goDay_29 : decode cX10_goDay 29 = .ok (.iload_n 1, 1) := by decide +kernel
theorem dX10_goDay_30 : decode cX10_goDay 30 = .ok (.iload 4, 2) := by decide +kernel
theorem dX10_goDay_32 : decode cX10_goDay 32 = .ok (.invokevirtual 245, 3) := by decide +kernel
theorem dX10_goDay_35 : decode cX10_goDay 35 = .ok (.ifCond .eq 27, 3) := by decide +kernel
theorem dX10_goDay_38 : decode cX10_goDay 38 = .ok (.aload_n 0, 1) := by decide +kernel
theorem dX10_goDay_39 : decode cX10_goDay 39 = .ok (.getfield 108, 3) := by decide +kernel
theorem dX10_goDay_42 : decode cX10_goDay 42 = .ok (.bipush 64, 2) := by decide +kernel
theorem dX10_goDay_44 : decode cX10_goDay 44 = .ok (.iload 4, 2) := by decide +kernel
theorem dX10_goDay_46 : decode cX10_goDay 46 = .ok (.imul, 1) := by decide +kernel
theorem dX10_goDay_47 : decode cX10_goDay 47 = .ok (.iconst 4, 1) := by decide +kernel
theorem dX10_goDay_48 : decode cX10_goDay 48 = .ok (.iload_n 2, 1) := by decide +kernel
theorem dX10_goDay_49 : decode cX10_goDay 49 = .ok (.imul, 1) := by decide +kernel
theorem dX10_goDay_50 : decode cX10_goDay 50 = .ok (.iadd, 1) := by decide +kernel
theorem dX10_goDay_51 : decode cX10_goDay 51 = .ok (.aload_n 0, 1) := by decide +kernel
theorem dX10_goDay_52 : decode cX10_goDay 52 = .ok (.getfield 19, 3) := by decide +kernel
theorem dX10_goDay_55 : decode cX10_goDay 55 = .ok (.iconst 4, 1) := by decide +kernel
theorem dX10_goDay_56 : decode cX10_goDay 56 = .ok (.irem, 1) := by decide +kernel
theorem dX10_goDay_57 : decode cX10_goDay 57 = .ok (.iadd, 1) := by decide +kernel
theorem dX10_goDay_58 : decode cX10_goDay 58 = .ok (.iaload, 1) := by decide +kernel
theorem dX10_goDay_59 : decode cX10_goDay 59 = .ok (.goto 4, 3) := by decide +kernel
theorem dX10_goDay_62 : decode cX10_goDay 62 = .ok (.iconst 0, 1) := by decide +kernel
theorem dX10_goDay_63 : decode cX10_goDay 63 = .ok (.iadd, 1) := by decide +kernel
theorem dX10_goDay_64 : decode cX10_goDay 64 = .ok (.istore_n 3, 1) := by decide +kernel
theorem dX10_goDay_65 : decode cX10_goDay 65 = .ok (.iinc 4 1, 3) := by decide +kernel
theorem dX10_goDay_68 : decode cX10_goDay 68 = .ok (.goto (-50), 3) := by decide +kernel
theorem dX10_goDay_71 : decode cX10_goDay 71 = .ok (.aload_n 0, 1) := by decide +kernel
theorem dX10_goDay_72 : decode cX10_goDay 72 = .ok (.getfield 22, 3) := by decide +kernel
theorem dX10_goDay_75 : decode cX10_goDay 75 = .ok (.iload_n 2, 1) := by decide +kernel
theorem dX10_goDay_76 : decode cX10_goDay 76 = .ok (.aload_n 0, 1) := by decide +kernel
theorem dX10_goDay_77 : decode cX10_goDay 77 = .ok (.iload_n 3, 1) := by decide +kernel
theorem dX10_goDay_78 : decode cX10_goDay 78 = .ok (.aload_n 0, 1) := by decide +kernel
theorem dX10_goDay_79 : decode cX10_goDay 79 = .ok (.getfield 111, 3) := by decide +kernel
theorem dX10_goDay_82 : decode cX10_goDay 82 = .ok (.invokevirtual 352, 3) := by decide +kernel
theorem dX10_goDay_85 : decode cX10_goDay 85 = .ok (.iastore, 1) := by decide +kernel
theorem dX10_goDay_86 : decode cX10_goDay 86 = .ok (.iinc 2 1, 3) := by decide +kernel
theorem dX10_goDay_89 : decode cX10_goDay 89 = .ok (.goto (-87), 3) := by decide +kernel
theorem dX10_goDay_92 : decode cX10_goDay 92 = .ok (.aload_n 0, 1) := by decide +kernel
theorem dX10_goDay_93 : decode cX10_goDay 93 = .ok (.dup, 1) := by decide +kernel
theorem dX10_goDay_94 : decode cX10_goDay 94 = .ok (.getfield 19, 3) := by decide +kernel
theorem dX10_goDay_97 : decode cX10_goDay 97 = .ok (.iconst 1, 1) := by decide +kernel
theorem dX10_goDay_98 : decode cX10_goDay 98 = .ok (.iadd, 1) := by decide +kernel
theorem dX10_goDay_99 : decode cX10_goDay 99 = .ok (.putfield 19, 3) := by decide +kernel
theorem dX10_goDay_102 : decode cX10_goDay 102 = .ok (.return_, 1) := by decide +kernel
theorem dX10_goDays_0 : decode cX10_goDays 0 = .ok (.iconst 0, 1) := by decide +kernel
theorem dX10_goDays_1 : decode cX10_goDays 1 = .ok (.istore_n 3, 1) := by decide +kernel
theorem dX10_goDays_2 : decode cX10_goDays 2 = .ok (.iload_n 3, 1) := by decide +kernel
theorem dX10_goDays_3 : decode cX10_goDays 3 = .ok (.iload_n 2, 1) := by decide +kernel
theorem dX10_goDays_4 : decode cX10_goDays 4 = .ok (.if_icmp .ge 14, 3) := by decide +kernel
theorem dX10_goDays_7 : decode cX10_goDays 7 = .ok (.aload_n 0, 1) := by decide +kernel
theorem dX10_goDays_8 : decode cX10_goDays 8 = .ok (.iload_n 1, 1) := by decide +kernel
theorem dX10_goDays_9 : decode cX10_goDays 9 = .ok (.invokevirtual 355, 3) := by decide +kernel
theorem dX10_goDays_12 : decode cX10_goDays 12 = .ok (.iinc 3 1, 3) := by decide +kernel
theorem dX10_goDays_15 : decode cX10_goDays 15 = .ok (.goto (-13), 3) := by decide +kernel
theorem dX10_goDays_18 : decode cX10_goDays 18 = .ok (.return_, 1) := by decide +kernel
theorem dX10_pass_0 : decode cX10_pass 0 = .ok (.aload_n 0, 1) := by decide +kernel
theorem dX10_pass_1 : decode cX10_pass 1 = .ok (.iload_n 1, 1) := by decide +kernel
theorem dX10_pass_2 : decode cX10_pass 2 = .ok (.invokevirtual 358, 3) := by decide +kernel
theorem dX10_pass_5 : decode cX10_pass 5 = .ok (.ifCond .ne 6, 3) := by decide +kernel
theorem dX10_pass_8 : decode cX10_pass 8 = .ok (.bipush (-2), 2) := by decide +kernel
theorem dX10_pass_10 : decode cX10_pass 10 = .ok (.ireturn, 1) := by decide +kernel
theorem dX10_pass_11 : decode cX10_pass 11 = .ok (.aload_n 0, 1) := by decide +kernel
theorem dX10_pass_12 : decode cX10_pass 12 = .ok (.getfield 19, 3) := by decide +kernel
theorem dX10_pass_15 : decode cX10_pass 15 = .ok (.iload_n 1, 1) := by decide +kernel
theorem dX10_pass_16 : decode cX10_pass 16 = .ok (.iadd, 1) := by decide +kernel
theorem dX10_pass_17 : decode cX10_pass 17 = .ok (.sipush 9999, 3) := by decide +kernel
theorem dX10_pass_20 : decode cX10_pass 20 = .ok (.if_icmp .le 6, 3) := by decide +kernel
theorem dX10_pass_23 : decode cX10_pass 23 = .ok (.bipush (-3), 2) := by decide +kernel
theorem dX10_pass_25 : decode cX10_pass 25 = .ok (.ireturn, 1) := by decide +kernel
theorem dX10_pass_26 : decode cX10_pass 26 = .ok (.aload_n 0, 1) := by decide +kernel
theorem dX10_pass_27 : decode cX10_pass 27 = .ok (.invokevirtual 361, 3) := by decide +kernel
theorem dX10_pass_30 : decode cX10_pass 30 = .ok (.aload_n 0, 1) := by decide +kernel
theorem dX10_pass_31 : decode cX10_pass 31 = .ok (.aload_n 0, 1) := by decide +kernel
theorem dX10_pass_32 : decode cX10_pass 32 = .ok (.invokevirtual 364, 3) := by decide +kernel
theorem dX10_pass_35 : decode cX10_pass 35 = .ok (.iload_n 1, 1) := by decide +kernel
theorem dX10_pass_36 : decode cX10_pass 36 = .ok (.invokevirtual 367, 3) := by decide +kernel
theorem dX10_pass_39 : decode cX10_pass 39 = .ok (.aload_n 0, 1) := by decide +kernel
theorem dX10_pass_40 : decode cX10_pass 40 = .ok (.getfield 19, 3) := by decide +kernel
theorem dX10_pass_43 : decode cX10_pass 43 = .ok (.ireturn, 1) := by decide +kernel
theorem dX10_baldSet_0 : decode cX10_baldSet 0 = .ok (.iconst 0, 1) := by decide +kernel
theorem dX10_baldSet_1 : decode cX10_baldSet 1 = .ok (.istore_n 1, 1) := by decide +kernel
theorem dX10_baldSet_2 : decode cX10_baldSet 2 = .ok (.iconst 0, 1) := by decide +kernel
theorem dX10_baldSet_3 : decode cX10_baldSet 3 = .ok (.istore_n 2, 1) := by decide +kernel
theorem dX10_baldSet_4 : decode cX10_baldSet 4 = .ok (.iload_n 2, 1) := by decide +kernel
theorem dX10_baldSet_5 : decode cX10_baldSet 5 = .ok (.bipush 16, 2) := by decide +kernel
theorem dX10_baldSet_7 : decode cX10_baldSet 7 = .ok (.if_icmp .ge 32, 3) := by decide +kernel
theorem dX10_baldSet_10 : decode cX10_baldSet 10 = .ok (.iload_n 1, 1) := by decide +kernel
theorem dX10_baldSet_11 : decode cX10_baldSet 11 = .ok (.aload_n 0, 1) := by decide +kernel
theorem dX10_baldSet_12 : decode cX10_baldSet 12 = .ok (.getfield 22, 3) := by decide +kernel
theorem dX10_baldSet_15 : decode cX10_baldSet 15 = .ok (.iload_n 2, 1) := by decide +kernel
theorem dX10_baldSet_16 : decode cX10_baldSet 16 = .ok (.iaload, 1) := by decide +kernel
theorem dX10_baldSet_17 : decode cX10_baldSet 17 = .ok (.aload_n 0, 1) := by decide +kernel
theorem dX10_baldSet_18 : decode cX10_baldSet 18 = .ok (.invokevirtual 371, 3) := by decide +kernel
theorem dX10_baldSet_21 : decode cX10_baldSet 21 = .ok (.if_icmp .lt 9, 3) := by decide +kernel
theorem dX10_baldSet_24 : decode cX10_baldSet 24 = .ok (.iconst 1, 1) := by decide +kernel
theorem dX10_baldSet_25 : decode cX10_baldSet 25 = .ok (.iload_n 2, 1) := by decide +kernel
theorem dX10_baldSet_26 : decode cX10_baldSet 26 = .ok (.ishl, 1) := by decide +kernel
theorem dX10_baldSet_27 : decode cX10_baldSet 27 = .ok (.goto 4, 3) := by decide +kernel
theorem dX10_baldSet_30 : decode cX10_baldSet 30 = .ok (.iconst 0, 1) := by decide +kernel
theorem dX10_baldSet_31 : decode cX10_baldSet 31 = .ok (.ior, 1) := by decide +kernel
theorem dX10_baldSet_32 : decode cX10_baldSet 32 = .ok (.istore_n 1, 1) := by decide +kernel
theorem dX10_baldSet_33 : decode cX10_baldSet 33 = .ok (.iinc 2 1, 3) := by decide +kernel
theorem dX10_baldSet_36 : decode cX10_baldSet 36 = .ok (.goto (-32), 3) := by decide +kernel
theorem dX10_baldSet_39 : decode cX10_baldSet 39 = .ok (.iload_n 1, 1) := by decide +kernel
theorem dX10_baldSet_40 : decode cX10_baldSet 40 = .ok (.ireturn, 1) := by decide +kernel
theorem dX10_allWear_0 : decode cX10_allWear 0 = .ok (.iconst 0, 1) := by decide +kernel
theorem dX10_allWear_1 : decode cX10_allWear 1 = .ok (.istore_n 1, 1) := by decide +kernel
theorem dX10_allWear_2 : decode cX10_allWear 2 = .ok (.iconst 0, 1) := by decide +kernel
theorem dX10_allWear_3 : decode cX10_allWear 3 = .ok (.istore_n 2, 1) := by decide +kernel
theorem dX10_allWear_4 : decode cX10_allWear 4 = .ok (.iload_n 2, 1) := by decide +kernel
theorem dX10_allWear_5 : decode cX10_allWear 5 = .ok (.bipush 16, 2) := by decide +kernel
theorem dX10_allWear_7 : decode cX10_allWear 7 = .ok (.if_icmp .ge 18, 3) := by decide +kernel
theorem dX10_allWear_10 : decode cX10_allWear 10 = .ok (.iload_n 1, 1) := by decide +kernel
theorem dX10_allWear_11 : decode cX10_allWear 11 = .ok (.aload_n 0, 1) := by decide +kernel
theorem dX10_allWear_12 : decode cX10_allWear 12 = .ok (.getfield 22, 3) := by decide +kernel
theorem dX10_allWear_15 : decode cX10_allWear 15 = .ok (.iload_n 2, 1) := by decide +kernel
theorem dX10_allWear_16 : decode cX10_allWear 16 = .ok (.iaload, 1) := by decide +kernel
theorem dX10_allWear_17 : decode cX10_allWear 17 = .ok (.iadd, 1) := by decide +kernel
theorem dX10_allWear_18 : decode cX10_allWear 18 = .ok (.istore_n 1, 1) := by decide +kernel
theorem dX10_allWear_19 : decode cX10_allWear 19 = .ok (.iinc 2 1, 3) := by decide +kernel
theorem dX10_allWear_22 : decode cX10_allWear 22 = .ok (.goto (-18), 3) := by decide +kernel
theorem dX10_allWear_25 : decode cX10_allWear 25 = .ok (.iload_n 1, 1) := by decide +kernel
theorem dX10_allWear_26 : decode cX10_allWear 26 = .ok (.ireturn, 1) := by decide +kernel
theorem dX10_allWays_0 : decode cX10_allWays 0 = .ok (.iconst 0, 1) := by decide +kernel
theorem dX10_allWays_1 : decode cX10_allWays 1 = .ok (.istore_n 1, 1) := by decide +kernel
theorem dX10_allWays_2 : decode cX10_allWays 2 = .ok (.iconst 0, 1) := by decide +kernel
theorem dX10_allWays_3 : decode cX10_allWays 3 = .ok (.istore_n 2, 1) := by decide +kernel
theorem dX10_allWays_4 : decode cX10_allWays 4 = .ok (.iload_n 2, 1) := by decide +kernel
theorem dX10_allWays_5 : decode cX10_allWays 5 = .ok (.aload_n 0, 1) := by decide +kernel
theorem dX10_allWays_6 : decode cX10_allWays 6 = .ok (.getfield 7, 3) := by decide +kernel
theorem dX10_allWays_9 : decode cX10_allWays 9 = .ok (.if_icmp .ge 72, 3) := by decide +kernel
theorem dX10_allWays_12 : decode cX10_allWays 12 = .ok (.aload_n 0, 1) := by decide +kernel
theorem dX10_allWays_13 : decode cX10_allWays 13 = .ok (.aload_n 0, 1) := by decide +kernel
theorem dX10_allWays_14 : decode cX10_allWays 14 = .ok (.getfield 13, 3) := by decide +kernel
theorem dX10_allWays_17 : decode cX10_allWays 17 = .ok (.iload_n 2, 1) := by decide +kernel
theorem dX10_allWays_18 : decode cX10_allWays 18 = .ok (.invokevirtual 245, 3) := by decide +kernel
theorem dX10_allWays_21 : decode cX10_allWays 21 = .ok (.ifCond .eq 6, 3) := by decide +kernel
theorem dX10_allWays_24 : decode cX10_allWays 24 = .ok (.goto 51, 3) := by decide +kernel
theorem dX10_allWays_27 : decode cX10_allWays 27 = .ok (.aload_n 0, 1) := by decide +kernel
theorem dX10_allWays_28 : decode cX10_allWays 28 = .ok (.iload_n 2, 1) := by decide +kernel
theorem dX10_allWays_29 : decode cX10_allWays 29 = .ok (.invokevirtual 342, 3) := by decide +kernel
theorem dX10_allWays_32 : decode cX10_allWays 32 = .ok (.istore_n 3, 1) := by decide +kernel
theorem dX10_allWays_33 : decode cX10_allWays 33 = .ok (.iconst 0, 1) := by decide +kernel
theorem dX10_allWays_34 : decode cX10_allWays 34 = .ok (.istore 4, 2) := by decide +kernel
theorem dX10_allWays_36 : decode cX10_allWays 36 = .ok (.iload 4, 2) := by decide +kernel
theorem dX10_allWays_38 : decode cX10_allWays 38 = .ok (.bipush 16, 2) := by decide +kernel
theorem dX10_allWays_40 : decode cX10_allWays 40 = .ok (.if_icmp .ge 35, 3) := by decide +kernel
theorem dX10_allWays_43 : decode cX10_allWays 43 = .ok (.iload_n 1, 1) := by decide +kernel
theorem dX10_allWays_44 : decode cX10_allWays 44 = .ok (.aload_n 0, 1) := by decide +kernel
theorem dX10_allWays_45 : decode cX10_allWays 45 = .ok (.iload_n 2, 1) := by decide +kernel
theorem dX10_allWays_46 : decode cX10_allWays 46 = .ok (.iload_n 3, 1) := by decide +kernel
theorem dX10_allWays_47 : decode cX10_allWays 47 = .ok (.iload 4, 2) := by decide +kernel
theorem dX10_allWays_49 : decode cX10_allWays 49 = .ok (.aload_n 0, 1) := by decide +kernel
theorem dX10_allWays_50 : decode cX10_allWays 50 = .ok (.getfield 19, 3) := by decide +kernel
theorem dX10_allWays_53 : decode cX10_allWays 53 = .ok (.invokevirtual 348, 3) := by decide +kernel
theorem dX10_allWays_56 : decode cX10_allWays 56 = .ok (.ifCond .le 10, 3) := by decide +kernel
theorem dX10_allWays_59 : decode cX10_allWays 59 = .ok (.iconst 1, 1) := by decide +kernel
theorem dX10_allWays_60 : decode cX10_allWays 60 = .ok (.iload 4, 2) := by decide +kernel
theorem dX10_allWays_62 : decode cX10_allWays 62 = .ok (.ishl, 1) := by decide +kernel
theorem dX10_allWays_63 : decode cX10_allWays 63 = .ok (.goto 4, 3) := by decide +kernel
theorem dX10_allWays_66 : decode cX10_allWays 66 = .ok (.iconst 0, 1) := by decide +kernel
theorem dX10_allWays_67 : decode cX10_allWays 67 = .ok (.ior, 1) := by decide +kernel
theorem dX10_allWays_68 : decode cX10_allWays 68 = .ok (.istore_n 1, 1) := by decide +kernel
theorem dX10_allWays_69 : decode cX10_allWays 69 = .ok (.iinc 4 1, 3) := by decide +kernel
theorem dX10_allWays_72 : decode cX10_allWays 72 = .ok (.goto (-36), 3) := by decide +kernel
theorem dX10_allWays_75 : decode cX10_allWays 75 = .ok (.iinc 2 1, 3) := by decide +kernel
theorem dX10_allWays_78 : decode cX10_allWays 78 = .ok (.goto (-74), 3) := by decide +kernel
theorem dX10_allWays_81 : decode cX10_allWays 81 = .ok (.iload_n 1, 1) := by decide +kernel
theorem dX10_allWays_82 : decode cX10_allWays 82 = .ok (.ireturn, 1) := by decide +kernel
theorem dX10_of_0 : decode cX10_of 0 = .ok (.aload_n 0, 1) := by decide +kernel
theorem dX10_of_1 : decode cX10_of 1 = .ok (.iload_n 1, 1) := by decide +kernel
theorem dX10_of_2 : decode cX10_of 2 = .ok (.invokevirtual 264, 3) := by decide +kernel
theorem dX10_of_5 : decode cX10_of 5 = .ok (.ifCond .ne 5, 3) := by decide +kernel
theorem dX10_of_8 : decode cX10_of 8 = .ok (.iconst (-1), 1) := by decide +kernel
theorem dX10_of_9 : decode cX10_of 9 = .ok (.ireturn, 1) := by decide +kernel
theorem dX10_of_10 : decode cX10_of 10 = .ok (.aload_n 0, 1) := by decide +kernel
theorem dX10_of_11 : decode cX10_of 11 = .ok (.iload_n 2, 1) := by decide +kernel
theorem dX10_of_12 : decode cX10_of 12 = .ok (.bipush 30, 2) := by decide +kernel
theorem dX10_of_14 : decode cX10_of 14 = .ok (.bipush 45, 2) := by decide +kernel
theorem dX10_of_16 : decode cX10_of 16 = .ok (.invokevirtual 253, 3) := by decide +kernel
theorem dX10_of_19 : decode cX10_of 19 = .ok (.ifCond .eq 38, 3) := by decide +kernel
theorem dX10_of_22 : decode cX10_of 22 = .ok (.aload_n 0, 1) := by decide +kernel
theorem dX10_of_23 : decode cX10_of 23 = .ok (.aload_n 0, 1) := by decide +kernel
theorem dX10_of_24 : decode cX10_of 24 = .ok (.getfield 13, 3) := by decide +kernel
theorem dX10_of_27 : decode cX10_of 27 = .ok (.iload_n 1, 1) := by decide +kernel
theorem dX10_of_28 : decode cX10_of 28 = .ok (.invokevirtual 245, 3) := by decide +kernel
theorem dX10_of_31 : decode cX10_of 31 = .ok (.ifCond .eq 7, 3) := by decide +kernel
theorem dX10_of_34 : decode cX10_of 34 = .ok (.iconst 0, 1) := by decide +kernel
theorem dX10_of_35 : decode cX10_of 35 = .ok (.goto 21, 3) := by decide +kernel
theorem dX10_of_38 : decode cX10_of 38 = .ok (.aload_n 0, 1) := by decide +kernel
theorem dX10_of_39 : decode cX10_of 39 = .ok (.iload_n 1, 1) := by decide +kernel
theorem dX10_of_40 : decode cX10_of 40 = .ok (.aload_n 0, 1) := by decide +kernel
theorem dX10_of_41 : decode cX10_of 41 = .ok (.iload_n 1, 1) := by decide +kernel
theorem dX10_of_42 : decode cX10_of 42 = .ok (.invokevirtual 342, 3) := by decide +kernel
theorem dX10_of_45 : decode cX10_of 45 = .ok (.iload_n 2, 1) := by decide +kernel
theorem dX10_of_46 : decode cX10_of 46 = .ok (.bipush 30, 2) := by decide +kernel
theorem dX10_of_48 : decode cX10_of 48 = .ok (.isub, 1) := by decide +kernel
theorem dX10_of_49 : decode cX10_of 49 = .ok (.aload_n 0, 1) := by decide +kernel
theorem dX10_of_50 : decode cX10_of 50 = .ok (.getfield 19, 3) := by decide +kernel
theorem dX10_of_53 : decode cX10_of 53 = .ok (.invokevirtual 348, 3) := by decide +kernel
theorem dX10_of_56 : decode cX10_of 56 = .ok (.ireturn, 1) := by decide +kernel
theorem dX10_of_57 : decode cX10_of 57 = .ok (.aload_n 0, 1) := by decide +kernel
theorem dX10_of_58 : decode cX10_of 58 = .ok (.iload_n 2, 1) := by decide +kernel
theorem dX10_of_59 : decode cX10_of 59 = .ok (.bipush 50, 2) := by decide +kernel
theorem dX10_of_61 : decode cX10_of 61 = .ok (.bipush 65, 2) := by decide +kernel
theorem dX10_of_63 : decode cX10_of 63 = .ok (.invokevirtual 253, 3) := by decide +kernel
theorem dX10_of_66 : decode cX10_of 66 = .ok (.ifCond .eq 13, 3) := by decide +kernel
theorem dX10_of_69 : decode cX10_of 69 = .ok (.aload_n 0, 1) := by decide +kernel
theorem dX10_of_70 : decode cX10_of 70 = .ok (.iload_n 2, 1) := by decide +kernel
theorem dX10_of_71 : decode cX10_of 71 = .ok (.bipush 50, 2) := by decide +kernel
theorem dX10_of_73 : decode cX10_of 73 = .ok (.isub, 1) := by decide +kernel
theorem dX10_of_74 : decode cX10_of 74 = .ok (.iload_n 1, 1) := by decide +kernel
theorem dX10_of_75 : decode cX10_of 75 = .ok (.invokevirtual 345, 3) := by decide +kernel
theorem dX10_of_78 : decode cX10_of 78 = .ok (.ireturn, 1) := by decide +kernel
theorem dX10_of_79 : decode cX10_of 79 = .ok (.aload_n 0, 1) := by decide +kernel
theorem dX10_of_80 : decode cX10_of 80 = .ok (.iload_n 2, 1) := by decide +kernel
theorem dX10_of_81 : decode cX10_of 81 = .ok (.bipush 10, 2) := by decide +kernel
theorem dX10_of_83 : decode cX10_of 83 = .ok (.bipush 25, 2) := by decide +kernel
theorem dX10_of_85 : decode cX10_of 85 = .ok (.invokevirtual 253, 3) := by decide +kernel
theorem dX10_of_88 : decode cX10_of 88 = .ok (.ifCond .eq 34, 3) := by decide +kernel
theorem dX10_of_91 : decode cX10_of 91 = .ok (.aload_n 0, 1) := by decide +kernel
theorem dX10_of_92 : decode cX10_of 92 = .ok (.iload_n 1, 1) := by decide +kernel
theorem dX10_of_93 : decode cX10_of 93 = .ok (.invokevirtual 339, 3) := by decide +kernel
theorem dX10_of_96 : decode cX10_of 96 = .ok (.iload_n 2, 1) := by decide +kernel
theorem dX10_of_97 : decode cX10_of 97 = .ok (.bipush 10, 2) := by decide +kernel
theorem dX10_of_99 : decode cX10_of 99 = .ok (.isub, 1) := by decide +kernel
theorem dX10_of_100 : decode cX10_of 100 = .ok (.aload_n 0, 1) := by decide +kernel
theorem dX10_of_101 : decode cX10_of 101 = .ok (.getfield 105, 3) := by decide +kernel
theorem dX10_of_104 : decode cX10_of 104 = .ok (.if_icmp .ge 15, 3) := by decide +kernel
theorem dX10_of_107 : decode cX10_of 107 = .ok (.aload_n 0, 1) := by decide +kernel
theorem dX10_of_108 : decode cX10_of 108 = .ok (.getfield 102, 3) := by decide +kernel
theorem dX10_of_111 : decode cX10_of 111 = .ok (.iload_n 2, 1) := by decide +kernel
theorem dX10_of_112 : decode cX10_of 112 = .ok (.bipush 10, 2) := by decide +kernel
theorem dX10_of_114 : decode cX10_of 114 = .ok (.isub, 1) := by decide +kernel
theorem dX10_of_115 : decode cX10_of 115 = .ok (.iaload, 1) := by decide +kernel
theorem dX10_of_116 : decode cX10_of 116 = .ok (.goto 5, 3) := by decide +kernel
theorem dX10_of_119 : decode cX10_of 119 = .ok (.bipush (-5), 2) := by decide +kernel
theorem dX10_of_121 : decode cX10_of 121 = .ok (.ireturn, 1) := by decide +kernel
theorem dX10_of_122 : decode cX10_of 122 = .ok (.iload_n 2, 1) := by decide +kernel
theorem dX10_of_123 : decode cX10_of 123 = .ok (.tableswitch 93 0 5 #[37, 44, 51, 58, 65, 83], 37) := by decide +kernel
theorem dX10_of_160 : decode cX10_of 160 = .ok (.aload_n 0, 1) := by decide +kernel
theorem dX10_of_161 : decode cX10_of 161 = .ok (.getfield 26, 3) := by decide +kernel
theorem dX10_of_164 : decode cX10_of 164 = .ok (.iload_n 1, 1) := by decide +kernel
theorem dX10_of_165 : decode cX10_of 165 = .ok (.iaload, 1) := by decide +kernel
theorem dX10_of_166 : decode cX10_of 166 = .ok (.ireturn, 1) := by decide +kernel
theorem dX10_of_167 : decode cX10_of 167 = .ok (.aload_n 0, 1) := by decide +kernel
theorem dX10_of_168 : decode cX10_of 168 = .ok (.getfield 29, 3) := by decide +kernel
theorem dX10_of_171 : decode cX10_of 171 = .ok (.iload_n 1, 1) := by decide +kernel
theorem dX10_of_172 : decode cX10_of 172 = .ok (.iaload, 1) := by decide +kernel
theorem dX10_of_173 : decode cX10_of 173 = .ok (.ireturn, 1) := by decide +kernel
theorem dX10_of_174 : decode cX10_of 174 = .ok (.aload_n 0, 1) := by decide +kernel
theorem dX10_of_175 : decode cX10_of 175 = .ok (.getfield 32, 3) := by decide +kernel
theorem dX10_of_178 : decode cX10_of 178 = .ok (.iload_n 1, 1) := by decide +kernel
theorem dX10_of_179 : decode cX10_of 179 = .ok (.iaload, 1) := by decide +kernel
theorem dX10_of_180 : decode cX10_of 180 = .ok (.ireturn, 1) := by decide +kernel
theorem dX10_of_181 : decode cX10_of 181 = .ok (.aload_n 0, 1) := by decide +kernel
theorem dX10_of_182 : decode cX10_of 182 = .ok (.getfield 35, 3) := by decide +kernel
theorem dX10_of_185 : decode cX10_of 185 = .ok (.iload_n 1, 1) := by decide +kernel
theorem dX10_of_186 : decode cX10_of 186 = .ok (.iaload, 1) := by decide +kernel
theorem dX10_of_187 : decode cX10_of 187 = .ok (.ireturn, 1) := by decide +kernel
theorem dX10_of_188 : decode cX10_of 188 = .ok (.aload_n 0, 1) := by decide +kernel
theorem dX10_of_189 : decode cX10_of 189 = .ok (.aload_n 0, 1) := by decide +kernel
theorem dX10_of_190 : decode cX10_of 190 = .ok (.getfield 13, 3) := by decide +kernel
theorem dX10_of_193 : decode cX10_of 193 = .ok (.iload_n 1, 1) := by decide +kernel
theorem dX10_of_194 : decode cX10_of 194 = .ok (.invokevirtual 245, 3) := by decide +kernel
theorem dX10_of_197 : decode cX10_of 197 = .ok (.ifCond .eq 7, 3) := by decide +kernel
theorem dX10_of_200 : decode cX10_of 200 = .ok (.iconst 1, 1) := by decide +kernel
theorem dX10_of_201 : decode cX10_of 201 = .ok (.goto 4, 3) := by decide +kernel
theorem dX10_of_204 : decode cX10_of 204 = .ok (.iconst 0, 1) := by decide +kernel
theorem dX10_of_205 : decode cX10_of 205 = .ok (.ireturn, 1) := by decide +kernel
theorem dX10_of_206 : decode cX10_of 206 = .ok (.aload_n 0, 1) := by decide +kernel
theorem dX10_of_207 : decode cX10_of 207 = .ok (.iload_n 1, 1) := by decide +kernel
theorem dX10_of_208 : decode cX10_of 208 = .ok (.invokevirtual 339, 3) := by decide +kernel
theorem dX10_of_211 : decode cX10_of 211 = .ok (.aload_n 0, 1) := by decide +kernel
theorem dX10_of_212 : decode cX10_of 212 = .ok (.getfield 105, 3) := by decide +kernel
theorem dX10_of_215 : decode cX10_of 215 = .ok (.ireturn, 1) := by decide +kernel
theorem dX10_of_216 : decode cX10_of 216 = .ok (.iconst (-1), 1) := by decide +kernel
theorem dX10_of_217 : decode cX10_of 217 = .ok (.ireturn, 1) := by decide +kernel
theorem dX10_save_0 : decode cX10_save 0 = .ok (.aload_n 0, 1) := by decide +kernel
theorem dX10_save_1 : decode cX10_save 1 = .ok (.ldc_w 374, 3) := by decide +kernel
theorem dX10_save_4 : decode cX10_save 4 = .ok (.putfield 111, 3) := by decide +kernel
theorem dX10_save_7 : decode cX10_save 7 = .ok (.aload_n 0, 1) := by decide +kernel
theorem dX10_save_8 : decode cX10_save 8 = .ok (.aload_n 0, 1) := by decide +kernel
theorem dX10_save_9 : decode cX10_save 9 = .ok (.getfield 13, 3) := by decide +kernel
theorem dX10_save_12 : decode cX10_save 12 = .ok (.putfield 114, 3) := by decide +kernel
theorem dX10_save_15 : decode cX10_save 15 = .ok (.aload_n 0, 1) := by decide +kernel
theorem dX10_save_16 : decode cX10_save 16 = .ok (.aload_n 0, 1) := by decide +kernel
theorem dX10_save_17 : decode cX10_save 17 = .ok (.getfield 16, 3) := by decide +kernel
theorem dX10_save_20 : decode cX10_save 20 = .ok (.putfield 117, 3) := by decide +kernel
theorem dX10_save_23 : decode cX10_save 23 = .ok (.aload_n 0, 1) := by decide +kernel
theorem dX10_save_24 : decode cX10_save 24 = .ok (.aload_n 0, 1) := by decide +kernel
theorem dX10_save_25 : decode cX10_save 25 = .ok (.getfield 19, 3) := by decide +kernel
theorem dX10_save_28 : decode cX10_save 28 = .ok (.putfield 120, 3) := by decide +kernel
theorem dX10_save_31 : decode cX10_save 31 = .ok (.iconst 0, 1) := by decide +kernel
theorem dX10_save_32 : decode cX10_save 32 = .ok (.istore_n 1, 1) := by decide +kernel
theorem dX10_save_33 : decode cX10_save 33 = .ok (.iload_n 1, 1) := by decide +kernel
theorem dX10_save_34 : decode cX10_save 34 = .ok (.bipush 16, 2) := by decide +kernel
theorem dX10_save_36 : decode cX10_save 36 = .ok (.if_icmp .ge 21, 3) := by decide +kernel
theorem dX10_save_39 : decode cX10_save 39 = .ok (.aload_n 0, 1) := by decide +kernel
theorem dX10_save_40 : decode cX10_save 40 = .ok (.getfield 123, 3) := by decide +kernel
theorem dX10_save_43 : decode cX10_save 43 = .ok (.iload_n 1, 1) := by decide +kernel
theorem dX10_save_44 : decode cX10_save 44 = .ok (.aload_n 0, 1) := by decide +kernel
theorem dX10_save_45 : decode cX10_save 45 = .ok (.getfield 22, 3) := by decide +kernel
theorem dX10_save_48 : decode cX10_save 48 = .ok (.iload_n 1, 1) := by decide +kernel
theorem dX10_save_49 : decode cX10_save 49 = .ok (.iaload, 1) := by decide +kernel
theorem dX10_save_50 : decode cX10_save 50 = .ok (.iastore, 1) := by decide +kernel
theorem dX10_save_51 : decode cX10_save 51 = .ok (.iinc 1 1, 3) := by decide +kernel
theorem dX10_save_54 : decode cX10_save 54 = .ok (.goto (-21), 3) := by decide +kernel
theorem dX10_save_57 : decode cX10_save 57 = .ok (.return_, 1) := by decide +kernel
theorem dX10_putBack_0 : decode cX10_putBack 0 = .ok (.aload_n 0, 1) := by decide +kernel
theorem dX10_putBack_1 : decode cX10_putBack 1 = .ok (.sipush 9999, 3) := by decide +kernel
theorem dX10_putBack_4 : decode cX10_putBack 4 = .ok (.putfield 111, 3) := by decide +kernel
theorem dX10_putBack_7 : decode cX10_putBack 7 = .ok (.aload_n 0, 1) := by decide +kernel
theorem dX10_putBack_8 : decode cX10_putBack 8 = .ok (.aload_n 0, 1) := by decide +kernel
theorem dX10_putBack_9 : decode cX10_putBack 9 = .ok (.getfield 114, 3) := by decide +kernel
theorem dX10_putBack_12 : decode cX10_putBack 12 = .ok (.putfield 13, 3) := by decide +kernel
theorem dX10_putBack_15 : decode cX10_putBack 15 = .ok (.aload_n 0, 1) := by decide +kernel
theorem dX10_putBack_16 : decode cX10_putBack 16 = .ok (.aload_n 0, 1) := by decide +kernel
theorem dX10_putBack_17 : decode cX10_putBack 17 = .ok (.getfield 117, 3) := by decide +kernel
theorem dX10_putBack_20 : decode cX10_putBack 20 = .ok (.putfield 16, 3) := by decide +kernel
theorem dX10_putBack_23 : decode cX10_putBack 23 = .ok (.aload_n 0, 1) := by decide +kernel
theorem dX10_putBack_24 : decode cX10_putBack 24 = .ok (.aload_n 0, 1) := by decide +kernel
theorem dX10_putBack_25 : decode cX10_putBack 25 = .ok (.getfield 120, 3) := by decide +kernel
theorem dX10_putBack_28 : decode cX10_putBack 28 = .ok (.putfield 19, 3) := by decide +kernel
theorem dX10_putBack_31 : decode cX10_putBack 31 = .ok (.iconst 0, 1) := by decide +kernel
theorem dX10_putBack_32 : decode cX10_putBack 32 = .ok (.istore_n 1, 1) := by decide +kernel
theorem dX10_putBack_33 : decode cX10_putBack 33 = .ok (.iload_n 1, 1) := by decide +kernel
theorem dX10_putBack_34 : decode cX10_putBack 34 = .ok (.bipush 16, 2) := by decide +kernel
theorem dX10_putBack_36 : decode cX10_putBack 36 = .ok (.if_icmp .ge 21, 3) := by decide +kernel
theorem dX10_putBack_39 : decode cX10_putBack 39 = .ok (.aload_n 0, 1) := by decide +kernel
theorem dX10_putBack_40 : decode cX10_putBack 40 = .ok (.getfield 22, 3) := by decide +kernel
theorem dX10_putBack_43 : decode cX10_putBack 43 = .ok (.iload_n 1, 1) := by decide +kernel
theorem dX10_putBack_44 : decode cX10_putBack 44 = .ok (.aload_n 0, 1) := by decide +kernel
theorem dX10_putBack_45 : decode cX10_putBack 45 = .ok (.getfield 123, 3) := by decide +kernel
theorem dX10_putBack_48 : decode cX10_putBack 48 = .ok (.iload_n 1, 1) := by decide +kernel
theorem dX10_putBack_49 : decode cX10_putBack 49 = .ok (.iaload, 1) := by decide +kernel
theorem dX10_putBack_50 : decode cX10_putBack 50 = .ok (.iastore, 1) := by decide +kernel
theorem dX10_putBack_51 : decode cX10_putBack 51 = .ok (.iinc 1 1, 3) := by decide +kernel
theorem dX10_putBack_54 : decode cX10_putBack 54 = .ok (.goto (-21), 3) := by decide +kernel
theorem dX10_putBack_57 : decode cX10_putBack 57 = .ok (.return_, 1) := by decide +kernel
theorem dX10_laySoon_0 : decode cX10_laySoon 0 = .ok (.aload_n 0, 1) := by decide +kernel
theorem dX10_laySoon_1 : decode cX10_laySoon 1 = .ok (.invokevirtual 361, 3) := by decide +kernel
theorem dX10_laySoon_4 : decode cX10_laySoon 4 = .ok (.aload_n 0, 1) := by decide +kernel
theorem dX10_laySoon_5 : decode cX10_laySoon 5 = .ok (.invokevirtual 375, 3) := by decide +kernel
theorem dX10_laySoon_8 : decode cX10_laySoon 8 = .ok (.iconst 0, 1) := by decide +kernel
theorem dX10_laySoon_9 : decode cX10_laySoon 9 = .ok (.istore_n 1, 1) := by decide +kernel
theorem dX10_laySoon_10 : decode cX10_laySoon 10 = .ok (.iload_n 1, 1) := by decide +kernel
theorem dX10_laySoon_11 : decode cX10_laySoon 11 = .ok (.bipush 16, 2) := by decide +kernel
theorem dX10_laySoon_13 : decode cX10_laySoon 13 = .ok (.if_icmp .ge 17, 3) := by decide +kernel
theorem dX10_laySoon_16 : decode cX10_laySoon 16 = .ok (.aload_n 0, 1) := by decide +kernel
theorem dX10_laySoon_17 : decode cX10_laySoon 17 = .ok (.getfield 126, 3) := by decide +kernel
theorem dX10_laySoon_20 : decode cX10_laySoon 20 = .ok (.iload_n 1, 1) := by decide +kernel
theorem dX10_laySoon_21 : decode cX10_laySoon 21 = .ok (.bipush (-5), 2) := by decide +kernel
theorem dX10_laySoon_23 : decode cX10_laySoon 23 = .ok (.iastore, 1) := by decide +kernel
theorem dX10_laySoon_24 : decode cX10_laySoon 24 = .ok (.iinc 1 1, 3) := by decide +kernel
theorem dX10_laySoon_27 : decode cX10_laySoon 27 = .ok (.goto (-17), 3) := by decide +kernel
theorem dX10_laySoon_30 : decode cX10_laySoon 30 = .ok (.iconst 0, 1) := by decide +kernel
theorem dX10_laySoon_31 : decode cX10_laySoon 31 = .ok (.istore_n 1, 1) := by decide +kernel
theorem dX10_laySoon_32 : decode cX10_laySoon 32 = .ok (.iload_n 1, 1) := by decide +kernel
theorem dX10_laySoon_33 : decode cX10_laySoon 33 = .ok (.bipush 61, 2) := by decide +kernel
theorem dX10_laySoon_35 : decode cX10_laySoon 35 = .ok (.if_icmp .ge 69, 3) := by decide +kernel
theorem dX10_laySoon_38 : decode cX10_laySoon 38 = .ok (.iconst 0, 1) := by decide +kernel
theorem dX10_laySoon_39 : decode cX10_laySoon 39 = .ok (.istore_n 2, 1) := by decide +kernel
theorem dX10_laySoon_40 : decode cX10_laySoon 40 = .ok (.iload_n 2, 1) := by decide +kernel
theorem dX10_laySoon_41 : decode cX10_laySoon 41 = .ok (.bipush 16, 2) := by decide +kernel
theorem dX10_laySoon_43 : decode cX10_laySoon 43 = .ok (.if_icmp .ge 47, 3) := by decide +kernel
theorem dX10_laySoon_46 : decode cX10_laySoon 46 = .ok (.aload_n 0, 1) := by decide +kernel
theorem dX10_laySoon_47 : decode cX10_laySoon 47 = .ok (.getfield 126, 3) := by decide +kernel
theorem dX10_laySoon_50 : decode cX10_laySoon 50 = .ok (.iload_n 2, 1) := by decide +kernel
theorem dX10_laySoon_51 : decode cX10_laySoon 51 = .ok (.aload_n 0, 1) := by decide +kernel
theorem dX10_laySoon_52 : decode cX10_laySoon 52 = .ok (.getfield 126, 3) := by decide +kernel
theorem dX10_laySoon_55 : decode cX10_laySoon 55 = .ok (.iload_n 2, 1) := by decide +kernel
theorem dX10_laySoon_56 : decode cX10_laySoon 56 = .ok (.iaload, 1) := by decide +kernel
theorem dX10_laySoon_57 : decode cX10_laySoon 57 = .ok (.ifCond .ge 20, 3) := by decide +kernel
theorem dX10_laySoon_60 : decode cX10_laySoon 60 = .ok (.aload_n 0, 1) := by decide +kernel
theorem dX10_laySoon_61 : decode cX10_laySoon 61 = .ok (.getfield 22, 3) := by decide +kernel
theorem dX10_laySoon_64 : decode cX10_laySoon 64 = .ok (.iload_n 2, 1) := by decide +kernel
theorem dX10_laySoon_65 : decode cX10_laySoon 65 = .ok (.iaload, 1) := by decide +kernel
theorem dX10_laySoon_66 : decode cX10_laySoon 66 = .ok (.aload_n 0, 1) := by decide +kernel
theorem dX10_laySoon_67 : decode cX10_laySoon 67 = .ok (.invokevirtual 371, 3) := by decide +kernel
theorem dX10_laySoon_70 : decode cX10_laySoon 70 = .ok (.if_icmp .lt 7, 3) := by decide +kernel
theorem dX10_laySoon_73 : decode cX10_laySoon 73 = .ok (.iload_n 1, 1) := by decide +kernel
theorem dX10_laySoon_74 : decode cX10_laySoon 74 = .ok (.goto 9, 3) := by decide +kernel
theorem dX10_laySoon_77 : decode cX10_laySoon 77 = .ok (.aload_n 0, 1) := by decide +kernel
theorem dX10_laySoon_78 : decode cX10_laySoon 78 = .ok (.getfield 126, 3) := by decide +kernel
theorem dX10_laySoon_81 : decode cX10_laySoon 81 = .ok (.iload_n 2, 1) := by decide +kernel
theorem dX10_laySoon_82 : decode cX10_laySoon 82 = .ok (.iaload, 1) := by decide +kernel
theorem dX10_laySoon_83 : decode cX10_laySoon 83 = .ok (.iastore, 1) := by decide +kernel
theorem dX10_laySoon_84 : decode cX10_laySoon 84 = .ok (.iinc 2 1, 3) := by decide +kernel
theorem dX10_laySoon_87 : decode cX10_laySoon 87 = .ok (.goto (-47), 3) := by decide +kernel
theorem dX10_laySoon_90 : decode cX10_laySoon 90 = .ok (.aload_n 0, 1) := by decide +kernel
theorem dX10_laySoon_91 : decode cX10_laySoon 91 = .ok (.aload_n 0, 1) := by decide +kernel
theorem dX10_laySoon_92 : decode cX10_laySoon 92 = .ok (.invokevirtual 364, 3) := by decide +kernel
theorem dX10_laySoon_95 : decode cX10_laySoon 95 = .ok (.invokevirtual 355, 3) := by decide +kernel
theorem dX10_laySoon_98 : decode cX10_laySoon 98 = .ok (.iinc 1 1, 3) := by decide +kernel
theorem dX10_laySoon_101 : decode cX10_laySoon 101 = .ok (.goto (-69), 3) := by decide +kernel
theorem dX10_laySoon_104 : decode cX10_laySoon 104 = .ok (.aload_n 0, 1) := by decide +kernel
theorem dX10_laySoon_105 : decode cX10_laySoon 105 = .ok (.invokevirtual 378, 3) := by decide +kernel
theorem dX10_laySoon_108 : decode cX10_laySoon 108 = .ok (.return_, 1) := by decide +kernel
theorem dX10_worn_0 : decode cX10_worn 0 = .ok (.aload_n 0, 1) := by decide +kernel
theorem dX10_worn_1 : decode cX10_worn 1 = .ok (.iload_n 1, 1) := by decide +kernel
theorem dX10_worn_2 : decode cX10_worn 2 = .ok (.invokevirtual 257, 3) := by decide +kernel
theorem dX10_worn_5 : decode cX10_worn 5 = .ok (.ifCond .ne 5, 3) := by decide +kernel
theorem dX10_worn_8 : decode cX10_worn 8 = .ok (.iconst (-1), 1) := by decide +kernel
theorem dX10_worn_9 : decode cX10_worn 9 = .ok (.ireturn, 1) := by decide +kernel
theorem dX10_worn_10 : decode cX10_worn 10 = .ok (.aload_n 0, 1) := by decide +kernel
theorem dX10_worn_11 : decode cX10_worn 11 = .ok (.invokevirtual 381, 3) := by decide +kernel
theorem dX10_worn_14 : decode cX10_worn 14 = .ok (.aload_n 0, 1) := by decide +kernel
theorem dX10_worn_15 : decode cX10_worn 15 = .ok (.getfield 126, 3) := by decide +kernel
theorem dX10_worn_18 : decode cX10_worn 18 = .ok (.iload_n 1, 1) := by decide +kernel
theorem dX10_worn_19 : decode cX10_worn 19 = .ok (.iaload, 1) := by decide +kernel
theorem dX10_worn_20 : decode cX10_worn 20 = .ok (.ireturn, 1) := by decide +kernel
theorem dX10_firstOf_0 : decode cX10_firstOf 0 = .ok (.aload_n 0, 1) := by decide +kernel
theorem dX10_firstOf_1 : decode cX10_firstOf 1 = .ok (.invokevirtual 381, 3) := by decide +kernel
theorem dX10_firstOf_4 : decode cX10_firstOf 4 = .ok (.bipush (-5), 2) := by decide +kernel
theorem dX10_firstOf_6 : decode cX10_firstOf 6 = .ok (.istore_n 1, 1) := by decide +kernel
theorem dX10_firstOf_7 : decode cX10_firstOf 7 = .ok (.iconst 0, 1) := by decide +kernel
theorem dX10_firstOf_8 : decode cX10_firstOf 8 = .ok (.istore_n 2, 1) := by decide +kernel
theorem dX10_firstOf_9 : decode cX10_firstOf 9 = .ok (.iload_n 2, 1) := by decide +kernel
theorem dX10_firstOf_10 : decode cX10_firstOf 10 = .ok (.bipush 16, 2) := by decide +kernel
theorem dX10_firstOf_12 : decode cX10_firstOf 12 = .ok (.if_icmp .ge 39, 3) := by decide +kernel
theorem dX10_firstOf_15 : decode cX10_firstOf 15 = .ok (.aload_n 0, 1) := by decide +kernel
theorem dX10_firstOf_16 : decode cX10_firstOf 16 = .ok (.getfield 126, 3) := by decide +kernel
theorem dX10_firstOf_19 : decode cX10_firstOf 19 = .ok (.iload_n 2, 1) := by decide +kernel
theorem dX10_firstOf_20 : decode cX10_firstOf 20 = .ok (.iaload, 1) := by decide +kernel
theorem dX10_firstOf_21 : decode cX10_firstOf 21 = .ok (.ifCond .le 24, 3) := by decide +kernel
theorem dX10_firstOf_24 : decode cX10_firstOf 24 = .ok (.iload_n 1, 1) := by decide +kernel
theorem dX10_firstOf_25 : decode cX10_firstOf 25 = .ok (.ifCond .lt 18, 3) := by decide +kernel
theorem dX10_firstOf_28 : decode cX10_firstOf 28 = .ok (.aload_n 0, 1) := by decide +kernel
theorem dX10_firstOf_29 : decode cX10_firstOf 29 = .ok (.getfield 126, 3) := by decide +kernel
theorem dX10_firstOf_32 : decode cX10_firstOf 32 = .ok (.iload_n 2, 1) := by decide +kernel
theorem dX10_firstOf_33 : decode cX10_firstOf 33 = .ok (.iaload, 1) := by decide +kernel
theorem dX10_firstOf_34 : decode cX10_firstOf 34 = .ok (.aload_n 0, 1) := by decide +kernel
theorem dX10_firstOf_35 : decode cX10_firstOf 35 = .ok (.getfield 126, 3) := by decide +kernel
theorem dX10_firstOf_38 : decode cX10_firstOf 38 = .ok (.iload_n 1, 1) := by decide +kernel
theorem dX10_firstOf_39 : decode cX10_firstOf 39 = .ok (.iaload, 1) := by decide +kernel
theorem dX10_firstOf_40 : decode cX10_firstOf 40 = .ok (.if_icmp .ge 5, 3) := by decide +kernel
theorem dX10_firstOf_43 : decode cX10_firstOf 43 = .ok (.iload_n 2, 1) := by decide +kernel
theorem dX10_firstOf_44 : decode cX10_firstOf 44 = .ok (.istore_n 1, 1) := by decide +kernel
theorem dX10_firstOf_45 : decode cX10_firstOf 45 = .ok (.iinc 2 1, 3) := by decide +kernel
theorem dX10_firstOf_48 : decode cX10_firstOf 48 = .ok (.goto (-39), 3) := by decide +kernel
theorem dX10_firstOf_51 : decode cX10_firstOf 51 = .ok (.iload_n 1, 1) := by decide +kernel
theorem dX10_firstOf_52 : decode cX10_firstOf 52 = .ok (.ireturn, 1) := by decide +kernel
theorem dX10_told_0 : decode cX10_told 0 = .ok (.aload_n 0, 1) := by decide +kernel
theorem dX10_told_1 : decode cX10_told 1 = .ok (.iload_n 1, 1) := by decide +kernel
theorem dX10_told_2 : decode cX10_told 2 = .ok (.bipush 10, 2) := by decide +kernel
theorem dX10_told_4 : decode cX10_told 4 = .ok (.bipush 25, 2) := by decide +kernel
theorem dX10_told_6 : decode cX10_told 6 = .ok (.invokevirtual 253, 3) := by decide +kernel
theorem dX10_told_9 : decode cX10_told 9 = .ok (.ifCond .eq 13, 3) := by decide +kernel
theorem dX10_told_12 : decode cX10_told 12 = .ok (.aload_n 0, 1) := by decide +kernel
theorem dX10_told_13 : decode cX10_told 13 = .ok (.getfield 22, 3) := by decide +kernel
theorem dX10_told_16 : decode cX10_told 16 = .ok (.iload_n 1, 1) := by decide +kernel
theorem dX10_told_17 : decode cX10_told 17 = .ok (.bipush 10, 2) := by decide +kernel
theorem dX10_told_19 : decode cX10_told 19 = .ok (.isub, 1) := by decide +kernel
theorem dX10_told_20 : decode cX10_told 20 = .ok (.iaload, 1) := by decide +kernel
theorem dX10_told_21 : decode cX10_told 21 = .ok (.ireturn, 1) := by decide +kernel
theorem dX10_told_22 : decode cX10_told 22 = .ok (.iload_n 1, 1) := by decide +kernel
theorem dX10_told_23 : decode cX10_told 23 = .ok (.tableswitch 76 0 6 #[41, 46, 51, 56, 61, 66, 71], 41) := by decide +kernel
theorem dX10_told_64 : decode cX10_told 64 = .ok (.aload_n 0, 1) := by decide +kernel
theorem dX10_told_65 : decode cX10_told 65 = .ok (.getfield 19, 3) := by decide +kernel
theorem dX10_told_68 : decode cX10_told 68 = .ok (.ireturn, 1) := by decide +kernel
theorem dX10_told_69 : decode cX10_told 69 = .ok (.aload_n 0, 1) := by decide +kernel
theorem dX10_told_70 : decode cX10_told 70 = .ok (.invokevirtual 371, 3) := by decide +kernel
theorem dX10_told_73 : decode cX10_told 73 = .ok (.ireturn, 1) := by decide +kernel
theorem dX10_told_74 : decode cX10_told 74 = .ok (.aload_n 0, 1) := by decide +kernel
theorem dX10_told_75 : decode cX10_told 75 = .ok (.getfield 16, 3) := by decide +kernel
theorem dX10_told_78 : decode cX10_told 78 = .ok (.ireturn, 1) := by decide +kernel
theorem dX10_told_79 : decode cX10_told 79 = .ok (.aload_n 0, 1) := by decide +kernel
theorem dX10_told_80 : decode cX10_told 80 = .ok (.invokevirtual 384, 3) := by decide +kernel
theorem dX10_told_83 : decode cX10_told 83 = .ok (.ireturn, 1) := by decide +kernel
theorem dX10_told_84 : decode cX10_told 84 = .ok (.aload_n 0, 1) := by decide +kernel
theorem dX10_told_85 : decode cX10_told 85 = .ok (.invokevirtual 387, 3) := by decide +kernel
theorem dX10_told_88 : decode cX10_told 88 = .ok (.ireturn, 1) := by decide +kernel
theorem dX10_told_89 : decode cX10_told 89 = .ok (.aload_n 0, 1) := by decide +kernel
theorem dX10_told_90 : decode cX10_told 90 = .ok (.invokevirtual 390, 3) := by decide +kernel
theorem dX10_told_93 : decode cX10_told 93 = .ok (.ireturn, 1) := by decide +kernel
theorem dX10_told_94 : decode cX10_told 94 = .ok (.aload_n 0, 1) := by decide +kernel
theorem dX10_told_95 : decode cX10_told 95 = .ok (.invokevirtual 393, 3) := by decide +kernel
theorem dX10_told_98 : decode cX10_told 98 = .ok (.ireturn, 1) := by decide +kernel
theorem dX10_told_99 : decode cX10_told 99 = .ok (.iconst (-1), 1) := by decide +kernel
theorem dX10_told_100 : decode cX10_told 100 = .ok (.ireturn, 1) := by decide +kernel
theorem dX10_on_0 : decode cX10_on 0 = .ok (.aload_n 0, 1) := by decide +kernel
theorem dX10_on_1 : decode cX10_on 1 = .ok (.iload_n 2, 1) := by decide +kernel
theorem dX10_on_2 : decode cX10_on 2 = .ok (.iconst 0, 1) := by decide +kernel
theorem dX10_on_3 : decode cX10_on 3 = .ok (.iconst 1, 1) := by decide +kernel
theorem dX10_on_4 : decode cX10_on 4 = .ok (.invokevirtual 253, 3) := by decide +kernel
theorem dX10_on_7 : decode cX10_on 7 = .ok (.ifCond .ne 17, 3) := by decide +kernel
theorem dX10_on_10 : decode cX10_on 10 = .ok (.aload_n 0, 1) := by decide +kernel
theorem dX10_on_11 : decode cX10_on 11 = .ok (.iload_n 2, 1) := by decide +kernel
theorem dX10_on_12 : decode cX10_on 12 = .ok (.bipush 10, 2) := by decide +kernel
theorem dX10_on_14 : decode cX10_on 14 = .ok (.bipush 25, 2) := by decide +kernel
theorem dX10_on_16 : decode cX10_on 16 = .ok (.invokevirtual 253, 3) := by decide +kernel
theorem dX10_on_19 : decode cX10_on 19 = .ok (.ifCond .ne 5, 3) := by decide +kernel
theorem dX10_on_22 : decode cX10_on 22 = .ok (.iconst (-1), 1) := by decide +kernel
theorem dX10_on_23 : decode cX10_on 23 = .ok (.ireturn, 1) := by decide +kernel
theorem dX10_on_24 : decode cX10_on 24 = .ok (.aload_n 0, 1) := by decide +kernel
theorem dX10_on_25 : decode cX10_on 25 = .ok (.iload_n 1, 1) := by decide +kernel
theorem dX10_on_26 : decode cX10_on 26 = .ok (.invokevirtual 358, 3) := by decide +kernel
theorem dX10_on_29 : decode cX10_on 29 = .ok (.ifCond .ne 6, 3) := by decide +kernel
theorem dX10_on_32 : decode cX10_on 32 = .ok (.bipush (-2), 2) := by decide +kernel
theorem dX10_on_34 : decode cX10_on 34 = .ok (.ireturn, 1) := by decide +kernel
theorem dX10_on_35 : decode cX10_on 35 = .ok (.aload_n 0, 1) := by decide +kernel
theorem dX10_on_36 : decode cX10_on 36 = .ok (.invokevirtual 361, 3) := by decide +kernel
theorem dX10_on_39 : decode cX10_on 39 = .ok (.aload_n 0, 1) := by decide +kernel
theorem dX10_on_40 : decode cX10_on 40 = .ok (.invokevirtual 375, 3) := by decide +kernel
theorem dX10_on_43 : decode cX10_on 43 = .ok (.aload_n 0, 1) := by decide +kernel
theorem dX10_on_44 : decode cX10_on 44 = .ok (.aload_n 0, 1) := by decide +kernel
theorem dX10_on_45 : decode cX10_on 45 = .ok (.invokevirtual 364, 3) := by decide +kernel
theorem dX10_on_48 : decode cX10_on 48 = .ok (.iload_n 1, 1) := by decide +kernel
theorem dX10_on_49 : decode cX10_on 49 = .ok (.invokevirtual 367, 3) := by decide +kernel
theorem dX10_on_52 : decode cX10_on 52 = .ok (.iload_n 2, 1) := by decide +kernel
theorem dX10_on_53 : decode cX10_on 53 = .ok (.ifCond .ne 10, 3) := by decide +kernel
theorem dX10_on_56 : decode cX10_on 56 = .ok (.aload_n 0, 1) := by decide +kernel
theorem dX10_on_57 : decode cX10_on 57 = .ok (.invokevirtual 384, 3) := by decide +kernel
theorem dX10_on_60 : decode cX10_on 60 = .ok (.goto 24, 3) := by decide +kernel
theorem dX10_on_63 : decode cX10_on 63 = .ok (.iload_n 2, 1) := by decide +kernel
theorem dX10_on_64 : decode cX10_on 64 = .ok (.iconst 1, 1) := by decide +kernel
theorem dX10_on_65 : decode cX10_on 65 = .ok (.if_icmp .ne 10, 3) := by decide +kernel
theorem dX10_on_68 : decode cX10_on 68 = .ok (.aload_n 0, 1) := by decide +kernel
theorem dX10_on_69 : decode cX10_on 69 = .ok (.invokevirtual 387, 3) := by decide +kernel
theorem dX10_on_72 : decode cX10_on 72 = .ok (.goto 12, 3) := by decide +kernel
theorem dX10_on_75 : decode cX10_on 75 = .ok (.aload_n 0, 1) := by decide +kernel
theorem dX10_on_76 : decode cX10_on 76 = .ok (.getfield 22, 3) := by decide +kernel
theorem dX10_on_79 : decode cX10_on 79 = .ok (.iload_n 2, 1) := by decide +kernel
theorem dX10_on_80 : decode cX10_on 80 = .ok (.bipush 10, 2) := by decide +kernel
theorem dX10_on_82 : decode cX10_on 82 = .ok (.isub, 1) := by decide +kernel
theorem dX10_on_83 : decode cX10_on 83 = .ok (.iaload, 1) := by decide +kernel
theorem dX10_on_84 : decode cX10_on 84 = .ok (.istore_n 3, 1) := by decide +kernel
theorem dX10_on_85 : decode cX10_on 85 = .ok (.aload_n 0, 1) := by decide +kernel
theorem dX10_on_86 : decode cX10_on 86 = .ok (.invokevirtual 378, 3) := by decide +kernel
theorem dX10_on_89 : decode cX10_on 89 = .ok (.iload_n 3, 1) := by decide +kernel
theorem dX10_on_90 : decode cX10_on 90 = .ok (.ireturn, 1) := by decide +kernel
theorem dX10_meet_0 : decode cX10_meet 0 = .ok (.aload_n 0, 1) := by decide +kernel
theorem dX10_meet_1 : decode cX10_meet 1 = .ok (.iload_n 1, 1) := by decide +kernel
theorem dX10_meet_2 : decode cX10_meet 2 = .ok (.invokevirtual 264, 3) := by decide +kernel
theorem dX10_meet_5 : decode cX10_meet 5 = .ok (.ifCond .eq 11, 3) := by decide +kernel
theorem dX10_meet_8 : decode cX10_meet 8 = .ok (.aload_n 0, 1) := by decide +kernel
theorem dX10_meet_9 : decode cX10_meet 9 = .ok (.iload_n 2, 1) := by decide +kernel
theorem dX10_meet_10 : decode cX10_meet 10 = .ok (.invokevirtual 264, 3) := by decide +kernel
theorem dX10_meet_13 : decode cX10_meet 13 = .ok (.ifCond .ne 5, 3) := by decide +kernel
theorem dX10_meet_16 : decode cX10_meet 16 = .ok (.iconst (-1), 1) := by decide +kernel
theorem dX10_meet_17 : decode cX10_meet 17 = .ok (.ireturn, 1) := by decide +kernel
theorem dX10_meet_18 : decode cX10_meet 18 = .ok (.iload_n 1, 1) := by decide +kernel
theorem dX10_meet_19 : decode cX10_meet 19 = .ok (.iload_n 2, 1) := by decide +kernel
theorem dX10_meet_20 : decode cX10_meet 20 = .ok (.if_icmp .ne 8, 3) := by decide +kernel
theorem dX10_meet_23 : decode cX10_meet 23 = .ok (.bipush (-2), 2) := by decide +kernel
theorem dX10_meet_25 : decode cX10_meet 25 = .ok (.goto 14, 3) := by decide +kernel
theorem dX10_meet_28 : decode cX10_meet 28 = .ok (.aload_n 0, 1) := by decide +kernel
theorem dX10_meet_29 : decode cX10_meet 29 = .ok (.iload_n 1, 1) := by decide +kernel
theorem dX10_meet_30 : decode cX10_meet 30 = .ok (.invokevirtual 342, 3) := by decide +kernel
theorem dX10_meet_33 : decode cX10_meet 33 = .ok (.aload_n 0, 1) := by decide +kernel
theorem dX10_meet_34 : decode cX10_meet 34 = .ok (.iload_n 2, 1) := by decide +kernel
theorem dX10_meet_35 : decode cX10_meet 35 = .ok (.invokevirtual 342, 3) := by decide +kernel
theorem dX10_meet_38 : decode cX10_meet 38 = .ok (.iand, 1) := by decide +kernel
theorem dX10_meet_39 : decode cX10_meet 39 = .ok (.ireturn, 1) := by decide +kernel
theorem dX10_isPrint_0 : decode cX10_isPrint 0 = .ok (.aload_n 0, 1) := by decide +kernel
theorem dX10_isPrint_1 : decode cX10_isPrint 1 = .ok (.invokevirtual 375, 3) := by decide +kernel
theorem dX10_isPrint_4 : decode cX10_isPrint 4 = .ok (.iconst 0, 1) := by decide +kernel
theorem dX10_isPrint_5 : decode cX10_isPrint 5 = .ok (.istore 4, 2) := by decide +kernel
theorem dX10_isPrint_7 : decode cX10_isPrint 7 = .ok (.iload 4, 2) := by decide +kernel
theorem dX10_isPrint_9 : decode cX10_isPrint 9 = .ok (.bipush 16, 2) := by decide +kernel
theorem dX10_isPrint_11 : decode cX10_isPrint 11 = .ok (.if_icmp .ge 17, 3) := by decide +kernel
theorem dX10_isPrint_14 : decode cX10_isPrint 14 = .ok (.aload_n 0, 1) := by decide +kernel
theorem dX10_isPrint_15 : decode cX10_isPrint 15 = .ok (.getfield 22, 3) := by decide +kernel
theorem dX10_isPrint_18 : decode cX10_isPrint 18 = .ok (.iload 4, 2) := by decide +kernel
theorem dX10_isPrint_20 : decode cX10_isPrint 20 = .ok (.iconst 0, 1) := by decide +kernel
theorem dX10_isPrint_21 : decode cX10_isPrint 21 = .ok (.iastore, 1) := by decide +kernel
theorem dX10_isPrint_22 : decode cX10_isPrint 22 = .ok (.iinc 4 1, 3) := by decide +kernel
theorem dX10_isPrint_25 : decode cX10_isPrint 25 = .ok (.goto (-18), 3) := by decide +kernel
theorem dX10_isPrint_28 : decode cX10_isPrint 28 = .ok (.aload_n 0, 1) := by decide +kernel
theorem dX10_isPrint_29 : decode cX10_isPrint 29 = .ok (.iload_n 1, 1) := by decide +kernel
theorem dX10_isPrint_30 : decode cX10_isPrint 30 = .ok (.iload_n 3, 1) := by decide +kernel
theorem dX10_isPrint_31 : decode cX10_isPrint 31 = .ok (.invokevirtual 367, 3) := by decide +kernel
theorem dX10_isPrint_34 : decode cX10_isPrint 34 = .ok (.iconst 0, 1) := by decide +kernel
theorem dX10_isPrint_35 : decode cX10_isPrint 35 = .ok (.istore 4, 2) := by decide +kernel
theorem dX10_isPrint_37 : decode cX10_isPrint 37 = .ok (.iconst 0, 1) := by decide +kernel
theorem dX10_isPrint_38 : decode cX10_isPrint 38 = .ok (.istore 5, 2) := by decide +kernel
theorem dX10_isPrint_40 : decode cX10_isPrint 40 = .ok (.iload 5, 2) := by decide +kernel
theorem dX10_isPrint_42 : decode cX10_isPrint 42 = .ok (.bipush 16, 2) := by decide +kernel
theorem dX10_isPrint_44 : decode cX10_isPrint 44 = .ok (.if_icmp .ge 32, 3) := by decide +kernel
theorem dX10_isPrint_47 : decode cX10_isPrint 47 = .ok (.iload 4, 2) := by decide +kernel
theorem dX10_isPrint_49 : decode cX10_isPrint 49 = .ok (.aload_n 0, 1) := by decide +kernel
theorem dX10_isPrint_50 : decode cX10_isPrint 50 = .ok (.getfield 22, 3) := by decide +kernel
theorem dX10_isPrint_53 : decode cX10_isPrint 53 = .ok (.iload 5, 2) := by decide +kernel
theorem dX10_isPrint_55 : decode cX10_isPrint 55 = .ok (.iaload, 1) := by decide +kernel
theorem dX10_isPrint_56 : decode cX10_isPrint 56 = .ok (.ifCond .le 10, 3) := by decide +kernel
theorem dX10_isPrint_59 : decode cX10_isPrint 59 = .ok (.iconst 1, 1) := by decide +kernel
theorem dX10_isPrint_60 : decode cX10_isPrint 60 = .ok (.iload 5, 2) := by decide +kernel
theorem dX10_isPrint_62 : decode cX10_isPrint 62 = .ok (.ishl, 1) := by decide +kernel
theorem dX10_isPrint_63 : decode cX10_isPrint 63 = .ok (.goto 4, 3) := by decide +kernel
theorem dX10_isPrint_66 : decode cX10_isPrint 66 = .ok (.iconst 0, 1) := by decide +kernel
theorem dX10_isPrint_67 : decode cX10_isPrint 67 = .ok (.ior, 1) := by decide +kernel
theorem dX10_isPrint_68 : decode cX10_isPrint 68 = .ok (.istore 4, 2) := by decide +kernel
theorem dX10_isPrint_70 : decode cX10_isPrint 70 = .ok (.iinc 5 1, 3) := by decide +kernel
theorem dX10_isPrint_73 : decode cX10_isPrint 73 = .ok (.goto (-33), 3) := by decide +kernel
theorem dX10_isPrint_76 : decode cX10_isPrint 76 = .ok (.aload_n 0, 1) := by decide +kernel
theorem dX10_isPrint_77 : decode cX10_isPrint 77 = .ok (.invokevirtual 378, 3) := by decide +kernel
theorem dX10_isPrint_80 : decode cX10_isPrint 80 = .ok (.iload 4, 2) := by decide +kernel
theorem dX10_isPrint_82 : decode cX10_isPrint 82 = .ok (.iload_n 2, 1) := by decide +kernel
theorem dX10_isPrint_83 : decode cX10_isPrint 83 = .ok (.if_icmp .ne 7, 3) := by decide +kernel
theorem dX10_isPrint_86 : decode cX10_isPrint 86 = .ok (.iconst 1, 1) := by decide +kernel
theorem dX10_isPrint_87 : decode cX10_isPrint 87 = .ok (.goto 4, 3) := by decide +kernel
theorem dX10_isPrint_90 : decode cX10_isPrint 90 = .ok (.iconst 0, 1) := by decide +kernel
theorem dX10_isPrint_91 : decode cX10_isPrint 91 = .ok (.ireturn, 1) := by decide +kernel
theorem dX10_who_0 : decode cX10_who 0 = .ok (.aload_n 0, 1) := by decide +kernel
theorem dX10_who_1 : decode cX10_who 1 = .ok (.iload_n 3, 1) := by decide +kernel
theorem dX10_who_2 : decode cX10_who 2 = .ok (.iconst 0, 1) := by decide +kernel
theorem dX10_who_3 : decode cX10_who 3 = .ok (.iconst 1, 1) := by decide +kernel
theorem dX10_who_4 : decode cX10_who 4 = .ok (.invokevirtual 253, 3) := by decide +kernel
theorem dX10_who_7 : decode cX10_who 7 = .ok (.ifCond .ne 5, 3) := by decide +kernel
theorem dX10_who_10 : decode cX10_who 10 = .ok (.iconst (-1), 1) := by decide +kernel
theorem dX10_who_11 : decode cX10_who 11 = .ok (.ireturn, 1) := by decide +kernel
theorem dX10_who_12 : decode cX10_who 12 = .ok (.aload_n 0, 1) := by decide +kernel
theorem dX10_who_13 : decode cX10_who 13 = .ok (.iload_n 1, 1) := by decide +kernel
theorem dX10_who_14 : decode cX10_who 14 = .ok (.iconst 0, 1) := by decide +kernel
theorem dX10_who_15 : decode cX10_who 15 = .ok (.ldc_w 396, 3) := by decide +kernel
theorem dX10_who_18 : decode cX10_who 18 = .ok (.invokevirtual 253, 3) := by decide +kernel
theorem dX10_who_21 : decode cX10_who 21 = .ok (.ifCond .eq 14, 3) := by decide +kernel
theorem dX10_who_24 : decode cX10_who 24 = .ok (.aload_n 0, 1) := by decide +kernel
theorem dX10_who_25 : decode cX10_who 25 = .ok (.iload_n 2, 1) := by decide +kernel
theorem dX10_who_26 : decode cX10_who 26 = .ok (.iconst 1, 1) := by decide +kernel
theorem dX10_who_27 : decode cX10_who 27 = .ok (.bipush 20, 2) := by decide +kernel
theorem dX10_who_29 : decode cX10_who 29 = .ok (.invokevirtual 253, 3) := by decide +kernel
theorem dX10_who_32 : decode cX10_who 32 = .ok (.ifCond .ne 6, 3) := by decide +kernel
theorem dX10_who_35 : decode cX10_who 35 = .ok (.bipush (-2), 2) := by decide +kernel
theorem dX10_who_37 : decode cX10_who 37 = .ok (.ireturn, 1) := by decide +kernel
theorem dX10_who_38 : decode cX10_who 38 = .ok (.aload_n 0, 1) := by decide +kernel
theorem dX10_who_39 : decode cX10_who 39 = .ok (.invokevirtual 361, 3) := by decide +kernel
theorem dX10_who_42 : decode cX10_who 42 = .ok (.bipush (-5), 2) := by decide +kernel
theorem dX10_who_44 : decode cX10_who 44 = .ok (.istore 4, 2) := by decide +kernel
theorem dX10_who_46 : decode cX10_who 46 = .ok (.iconst 0, 1) := by decide +kernel
theorem dX10_who_47 : decode cX10_who 47 = .ok (.istore 5, 2) := by decide +kernel
theorem dX10_who_49 : decode cX10_who 49 = .ok (.iconst 0, 1) := by decide +kernel
theorem dX10_who_50 : decode cX10_who 50 = .ok (.istore 6, 2) := by decide +kernel
theorem dX10_who_52 : decode cX10_who 52 = .ok (.iload 6, 2) := by decide +kernel
theorem dX10_who_54 : decode cX10_who 54 = .ok (.iconst 1, 1) := by decide +kernel
theorem dX10_who_55 : decode cX10_who 55 = .ok (.aload_n 0, 1) := by decide +kernel
theorem dX10_who_56 : decode cX10_who 56 = .ok (.getfield 7, 3) := by decide +kernel
theorem dX10_who_59 : decode cX10_who 59 = .ok (.ishl, 1) := by decide +kernel
theorem dX10_who_60 : decode cX10_who 60 = .ok (.if_icmp .ge 60, 3) := by decide +kernel
theorem dX10_who_63 : decode cX10_who 63 = .ok (.iload 6, 2) := by decide +kernel
theorem dX10_who_65 : decode cX10_who 65 = .ok (.aload_n 0, 1) := by decide +kernel
theorem dX10_who_66 : decode cX10_who 66 = .ok (.getfield 13, 3) := by decide +kernel
theorem dX10_who_69 : decode cX10_who 69 = .ok (.iand, 1) := by decide +kernel
theorem dX10_who_70 : decode cX10_who 70 = .ok (.ifCond .ne 44, 3) := by decide +kernel
theorem dX10_who_73 : decode cX10_who 73 = .ok (.aload_n 0, 1) := by decide +kernel
theorem dX10_who_74 : decode cX10_who 74 = .ok (.iload 6, 2) := by decide +kernel
theorem dX10_who_76 : decode cX10_who 76 = .ok (.iload_n 1, 1) := by decide +kernel
theorem dX10_who_77 : decode cX10_who 77 = .ok (.iload_n 2, 1) := by decide +kernel
theorem dX10_who_78 : decode cX10_who 78 = .ok (.invokevirtual 397, 3) := by decide +kernel
theorem dX10_who_81 : decode cX10_who 81 = .ok (.ifCond .ne 6, 3) := by decide +kernel
theorem dX10_who_84 : decode cX10_who 84 = .ok (.goto 30, 3) := by decide +kernel
theorem dX10_who_87 : decode cX10_who 87 = .ok (.iinc 5 1, 3) := by decide +kernel
theorem dX10_who_90 : decode cX10_who 90 = .ok (.iload 4, 2) := by decide +kernel
theorem dX10_who_92 : decode cX10_who 92 = .ok (.ifCond .lt 18, 3) := by decide +kernel
theorem dX10_who_95 : decode cX10_who 95 = .ok (.aload_n 0, 1) := by decide +kernel
theorem dX10_who_96 : decode cX10_who 96 = .ok (.iload 6, 2) := by decide +kernel
theorem dX10_who_98 : decode cX10_who 98 = .ok (.invokevirtual 400, 3) := by decide +kernel
theorem dX10_who_101 : decode cX10_who 101 = .ok (.aload_n 0, 1) := by decide +kernel
theorem dX10_who_102 : decode cX10_who 102 = .ok (.iload 4, 2) := by decide +kernel
theorem dX10_who_104 : decode cX10_who 104 = .ok (.invokevirtual 400, 3) := by decide +kernel
theorem dX10_who_107 : decode cX10_who 107 = .ok (.if_icmp .ge 7, 3) := by decide +kernel
theorem dX10_who_110 : decode cX10_who 110 = .ok (.iload 6, 2) := by decide +kernel
theorem dX10_who_112 : decode cX10_who 112 = .ok (.istore 4, 2) := by decide +kernel
theorem dX10_who_114 : decode cX10_who 114 = .ok (.iinc 6 1, 3) := by decide +kernel
theorem dX10_who_117 : decode cX10_who 117 = .ok (.goto (-65), 3) := by decide +kernel
theorem dX10_who_120 : decode cX10_who 120 = .ok (.iload_n 3, 1) := by decide +kernel
theorem dX10_who_121 : decode cX10_who 121 = .ok (.ifCond .ne 8, 3) := by decide +kernel
theorem dX10_who_124 : decode cX10_who 124 = .ok (.iload 4, 2) := by decide +kernel
theorem dX10_who_126 : decode cX10_who 126 = .ok (.goto 5, 3) := by decide +kernel
theorem dX10_who_129 : decode cX10_who 129 = .ok (.iload 5, 2) := by decide +kernel
theorem dX10_who_131 : decode cX10_who 131 = .ok (.ireturn, 1) := by decide +kernel
theorem dX10_wearIf_0 : decode cX10_wearIf 0 = .ok (.aload_n 0, 1) := by decide +kernel
theorem dX10_wearIf_1 : decode cX10_wearIf 1 = .ok (.invokevirtual 375, 3) := by decide +kernel
theorem dX10_wearIf_4 : decode cX10_wearIf 4 = .ok (.aload_n 0, 1) := by decide +kernel
theorem dX10_wearIf_5 : decode cX10_wearIf 5 = .ok (.dup, 1) := by decide +kernel
theorem dX10_wearIf_6 : decode cX10_wearIf 6 = .ok (.getfield 16, 3) := by decide +kernel
theorem dX10_wearIf_9 : decode cX10_wearIf 9 = .ok (.iload_n 1, 1) := by decide +kernel
theorem dX10_wearIf_10 : decode cX10_wearIf 10 = .ok (.ior, 1) := by decide +kernel
theorem dX10_wearIf_11 : decode cX10_wearIf 11 = .ok (.putfield 16, 3) := by decide +kernel
theorem dX10_wearIf_14 : decode cX10_wearIf 14 = .ok (.aload_n 0, 1) := by decide +kernel
theorem dX10_wearIf_15 : decode cX10_wearIf 15 = .ok (.invokevirtual 361, 3) := by decide +kernel
theorem dX10_wearIf_18 : decode cX10_wearIf 18 = .ok (.aload_n 0, 1) := by decide +kernel
theorem dX10_wearIf_19 : decode cX10_wearIf 19 = .ok (.aload_n 0, 1) := by decide +kernel
theorem dX10_wearIf_20 : decode cX10_wearIf 20 = .ok (.invokevirtual 364, 3) := by decide +kernel
theorem dX10_wearIf_23 : decode cX10_wearIf 23 = .ok (.bipush 10, 2) := by decide +kernel
theorem dX10_wearIf_25 : decode cX10_wearIf 25 = .ok (.invokevirtual 367, 3) := by decide +kernel
theorem dX10_wearIf_28 : decode cX10_wearIf 28 = .ok (.aload_n 0, 1) := by decide +kernel
theorem dX10_wearIf_29 : decode cX10_wearIf 29 = .ok (.invokevirtual 387, 3) := by decide +kernel
theorem dX10_wearIf_32 : decode cX10_wearIf 32 = .ok (.istore_n 2, 1) := by decide +kernel
theorem dX10_wearIf_33 : decode cX10_wearIf 33 = .ok (.aload_n 0, 1) := by decide +kernel
theorem dX10_wearIf_34 : decode cX10_wearIf 34 = .ok (.invokevirtual 378, 3) := by decide +kernel
theorem dX10_wearIf_37 : decode cX10_wearIf 37 = .ok (.iload_n 2, 1) := by decide +kernel
theorem dX10_wearIf_38 : decode cX10_wearIf 38 = .ok (.ireturn, 1) := by decide +kernel
theorem dX10_busy_0 : decode cX10_busy 0 = .ok (.aload_n 0, 1) := by decide +kernel
theorem dX10_busy_1 : decode cX10_busy 1 = .ok (.getfield 16, 3) := by decide +kernel
theorem dX10_busy_4 : decode cX10_busy 4 = .ok (.istore_n 1, 1) := by decide +kernel
theorem dX10_busy_5 : decode cX10_busy 5 = .ok (.iconst 0, 1) := by decide +kernel
theorem dX10_busy_6 : decode cX10_busy 6 = .ok (.istore_n 2, 1) := by decide +kernel
theorem dX10_busy_7 : decode cX10_busy 7 = .ok (.iload_n 2, 1) := by decide +kernel
theorem dX10_busy_8 : decode cX10_busy 8 = .ok (.aload_n 0, 1) := by decide +kernel
theorem dX10_busy_9 : decode cX10_busy 9 = .ok (.getfield 7, 3) := by decide +kernel
theorem dX10_busy_12 : decode cX10_busy 12 = .ok (.if_icmp .ge 29, 3) := by decide +kernel
theorem dX10_busy_15 : decode cX10_busy 15 = .ok (.iload_n 1, 1) := by decide +kernel
theorem dX10_busy_16 : decode cX10_busy 16 = .ok (.iconst 1, 1) := by decide +kernel
theorem dX10_busy_17 : decode cX10_busy 17 = .ok (.aload_n 0, 1) := by decide +kernel
theorem dX10_busy_18 : decode cX10_busy 18 = .ok (.getfield 32, 3) := by decide +kernel
theorem dX10_busy_21 : decode cX10_busy 21 = .ok (.iload_n 2, 1) := by decide +kernel
theorem dX10_busy_22 : decode cX10_busy 22 = .ok (.iaload, 1) := by decide +kernel
theorem dX10_busy_23 : decode cX10_busy 23 = .ok (.ishl, 1) := by decide +kernel
theorem dX10_busy_24 : decode cX10_busy 24 = .ok (.iconst 1, 1) := by decide +kernel
theorem dX10_busy_25 : decode cX10_busy 25 = .ok (.aload_n 0, 1) := by decide +kernel
theorem dX10_busy_26 : decode cX10_busy 26 = .ok (.getfield 35, 3) := by decide +kernel
theorem dX10_busy_29 : decode cX10_busy 29 = .ok (.iload_n 2, 1) := by decide +kernel
theorem dX10_busy_30 : decode cX10_busy 30 = .ok (.iaload, 1) := by decide +kernel
theorem dX10_busy_31 : decode cX10_busy 31 = .ok (.ishl, 1) := by decide +kernel
theorem dX10_busy_32 : decode cX10_busy 32 = .ok (.ior, 1) := by decide +kernel
theorem dX10_busy_33 : decode cX10_busy 33 = .ok (.ior, 1) := by decide +kernel
theorem dX10_busy_34 : decode cX10_busy 34 = .ok (.istore_n 1, 1) := by decide +kernel
theorem dX10_busy_35 : decode cX10_busy 35 = .ok (.iinc 2 1, 3) := by decide +kernel
theorem dX10_busy_38 : decode cX10_busy 38 = .ok (.goto (-31), 3) := by decide +kernel
theorem dX10_busy_41 : decode cX10_busy 41 = .ok (.iload_n 1, 1) := by decide +kernel
theorem dX10_busy_42 : decode cX10_busy 42 = .ok (.ireturn, 1) := by decide +kernel
theorem dX10_standOf_0 : decode cX10_standOf 0 = .ok (.aload_n 0, 1) := by decide +kernel
theorem dX10_standOf_1 : decode cX10_standOf 1 = .ok (.iconst 0, 1) := by decide +kernel
theorem dX10_standOf_2 : decode cX10_standOf 2 = .ok (.invokevirtual 403, 3) := by decide +kernel
theorem dX10_standOf_5 : decode cX10_standOf 5 = .ok (.istore_n 1, 1) := by decide +kernel
theorem dX10_standOf_6 : decode cX10_standOf 6 = .ok (.bipush (-5), 2) := by decide +kernel
theorem dX10_standOf_8 : decode cX10_standOf 8 = .ok (.istore_n 2, 1) := by decide +kernel
theorem dX10_standOf_9 : decode cX10_standOf 9 = .ok (.aload_n 0, 1) := by decide +kernel
theorem dX10_standOf_10 : decode cX10_standOf 10 = .ok (.invokevirtual 406, 3) := by decide +kernel
theorem dX10_standOf_13 : decode cX10_standOf 13 = .ok (.istore_n 3, 1) := by decide +kernel
theorem dX10_standOf_14 : decode cX10_standOf 14 = .ok (.iconst 0, 1) := by decide +kernel
theorem dX10_standOf_15 : decode cX10_standOf 15 = .ok (.istore 4, 2) := by decide +kernel
theorem dX10_standOf_17 : decode cX10_standOf 17 = .ok (.iload 4, 2) := by decide +kernel
theorem dX10_standOf_19 : decode cX10_standOf 19 = .ok (.bipush 16, 2) := by decide +kernel
theorem dX10_standOf_21 : decode cX10_standOf 21 = .ok (.if_icmp .ge 78, 3) := by decide +kernel
theorem dX10_standOf_24 : decode cX10_standOf 24 = .ok (.iconst (-1), 1) := by decide +kernel
theorem dX10_standOf_25 : decode cX10_standOf 25 = .ok (.istore 5, 2) := by decide +kernel
theorem dX10_standOf_27 : decode cX10_standOf 27 = .ok (.iload 5, 2) := by decide +kernel
theorem dX10_standOf_29 : decode cX10_standOf 29 = .ok (.iload 4, 2) := by decide +kernel
theorem dX10_standOf_31 : decode cX10_standOf 31 = .ok (.if_icmp .ge 62, 3) := by decide +kernel
theorem dX10_standOf_34 : decode cX10_standOf 34 = .ok (.iconst 1, 1) := by decide +kernel
theorem dX10_standOf_35 : decode cX10_standOf 35 = .ok (.iload 4, 2) := by decide +kernel
theorem dX10_standOf_37 : decode cX10_standOf 37 = .ok (.ishl, 1) := by decide +kernel
theorem dX10_standOf_38 : decode cX10_standOf 38 = .ok (.iload 5, 2) := by decide +kernel
theorem dX10_standOf_40 : decode cX10_standOf 40 = .ok (.ifCond .ge 7, 3) := by decide +kernel
theorem dX10_standOf_43 : decode cX10_standOf 43 = .ok (.iconst 0, 1) := by decide +kernel
theorem dX10_standOf_44 : decode cX10_standOf 44 = .ok (.goto 7, 3) := by decide +kernel
theorem dX10_standOf_47 : decode cX10_standOf 47 = .ok (.iconst 1, 1) := by decide +kernel
theorem dX10_standOf_48 : decode cX10_standOf 48 = .ok (.iload 5, 2) := by decide +kernel
theorem dX10_standOf_50 : decode cX10_standOf 50 = .ok (.ishl, 1) := by decide +kernel
theorem dX10_standOf_51 : decode cX10_standOf 51 = .ok (.ior, 1) := by decide +kernel
theorem dX10_standOf_52 : decode cX10_standOf 52 = .ok (.istore 6, 2) := by decide +kernel
theorem dX10_standOf_54 : decode cX10_standOf 54 = .ok (.iload 6, 2) := by decide +kernel
theorem dX10_standOf_56 : decode cX10_standOf 56 = .ok (.iload_n 3, 1) := by decide +kernel
theorem dX10_standOf_57 : decode cX10_standOf 57 = .ok (.iand, 1) := by decide +kernel
theorem dX10_standOf_58 : decode cX10_standOf 58 = .ok (.ifCond .eq 6, 3) := by decide +kernel
theorem dX10_standOf_61 : decode cX10_standOf 61 = .ok (.goto 26, 3) := by decide +kernel
theorem dX10_standOf_64 : decode cX10_standOf 64 = .ok (.aload_n 0, 1) := by decide +kernel
theorem dX10_standOf_65 : decode cX10_standOf 65 = .ok (.iload 6, 2) := by decide +kernel
theorem dX10_standOf_67 : decode cX10_standOf 67 = .ok (.invokevirtual 403, 3) := by decide +kernel
theorem dX10_standOf_70 : decode cX10_standOf 70 = .ok (.istore 7, 2) := by decide +kernel
theorem dX10_standOf_72 : decode cX10_standOf 72 = .ok (.iload 7, 2) := by decide +kernel
theorem dX10_standOf_74 : decode cX10_standOf 74 = .ok (.iload_n 1, 1) := by decide +kernel
theorem dX10_standOf_75 : decode cX10_standOf 75 = .ok (.if_icmp .lt 6, 3) := by decide +kernel
theorem dX10_standOf_78 : decode cX10_standOf 78 = .ok (.goto 9, 3) := by decide +kernel
theorem dX10_standOf_81 : decode cX10_standOf 81 = .ok (.iload 6, 2) := by decide +kernel
theorem dX10_standOf_83 : decode cX10_standOf 83 = .ok (.istore_n 2, 1) := by decide +kernel
theorem dX10_standOf_84 : decode cX10_standOf 84 = .ok (.iload 7, 2) := by decide +kernel
theorem dX10_standOf_86 : decode cX10_standOf 86 = .ok (.istore_n 1, 1) := by decide +kernel
theorem dX10_standOf_87 : decode cX10_standOf 87 = .ok (.iinc 5 1, 3) := by decide +kernel
theorem dX10_standOf_90 : decode cX10_standOf 90 = .ok (.goto (-63), 3) := by decide +kernel
theorem dX10_standOf_93 : decode cX10_standOf 93 = .ok (.iinc 4 1, 3) := by decide +kernel
theorem dX10_standOf_96 : decode cX10_standOf 96 = .ok (.goto (-79), 3) := by decide +kernel
theorem dX10_standOf_99 : decode cX10_standOf 99 = .ok (.iload_n 2, 1) := by decide +kernel
theorem dX10_standOf_100 : decode cX10_standOf 100 = .ok (.ireturn, 1) := by decide +kernel
theorem dX10_baldIf_0 : decode cX10_baldIf 0 = .ok (.aload_n 0, 1) := by decide +kernel
theorem dX10_baldIf_1 : decode cX10_baldIf 1 = .ok (.invokevirtual 375, 3) := by decide +kernel
theorem dX10_baldIf_4 : decode cX10_baldIf 4 = .ok (.iload_n 1, 1) := by decide +kernel
theorem dX10_baldIf_5 : decode cX10_baldIf 5 = .ok (.ifCond .lt 10, 3) := by decide +kernel
theorem dX10_baldIf_8 : decode cX10_baldIf 8 = .ok (.aload_n 0, 1) := by decide +kernel
theorem dX10_baldIf_9 : decode cX10_baldIf 9 = .ok (.getfield 22, 3) := by decide +kernel
theorem dX10_baldIf_12 : decode cX10_baldIf 12 = .ok (.iload_n 1, 1) := by decide +kernel
theorem dX10_baldIf_13 : decode cX10_baldIf 13 = .ok (.iconst 0, 1) := by decide +kernel
theorem dX10_baldIf_14 : decode cX10_baldIf 14 = .ok (.iastore, 1) := by decide +kernel
theorem dX10_baldIf_15 : decode cX10_baldIf 15 = .ok (.aload_n 0, 1) := by decide +kernel
theorem dX10_baldIf_16 : decode cX10_baldIf 16 = .ok (.aload_n 0, 1) := by decide +kernel
theorem dX10_baldIf_17 : decode cX10_baldIf 17 = .ok (.invokevirtual 364, 3) := by decide +kernel
theorem dX10_baldIf_20 : decode cX10_baldIf 20 = .ok (.bipush 20, 2) := by decide +kernel
theorem dX10_baldIf_22 : decode cX10_baldIf 22 = .ok (.invokevirtual 367, 3) := by decide +kernel
theorem dX10_baldIf_25 : decode cX10_baldIf 25 = .ok (.aload_n 0, 1) := by decide +kernel
theorem dX10_baldIf_26 : decode cX10_baldIf 26 = .ok (.aload_n 0, 1) := by decide +kernel
theorem dX10_baldIf_27 : decode cX10_baldIf 27 = .ok (.invokevirtual 384, 3) := by decide +kernel
theorem dX10_baldIf_30 : decode cX10_baldIf 30 = .ok (.invokevirtual 400, 3) := by decide +kernel
theorem dX10_baldIf_33 : decode cX10_baldIf 33 = .ok (.istore_n 2, 1) := by decide +kernel
theorem dX10_baldIf_34 : decode cX10_baldIf 34 = .ok (.aload_n 0, 1) := by decide +kernel
theorem dX10_baldIf_35 : decode cX10_baldIf 35 = .ok (.invokevirtual 378, 3) := by decide +kernel
theorem dX10_baldIf_38 : decode cX10_baldIf 38 = .ok (.iload_n 2, 1) := by decide +kernel
theorem dX10_baldIf_39 : decode cX10_baldIf 39 = .ok (.ireturn, 1) := by decide +kernel
theorem dX10_layOf_0 : decode cX10_layOf 0 = .ok (.aload_n 0, 1) := by decide +kernel
theorem dX10_layOf_1 : decode cX10_layOf 1 = .ok (.invokevirtual 361, 3) := by decide +kernel
theorem dX10_layOf_4 : decode cX10_layOf 4 = .ok (.aload_n 0, 1) := by decide +kernel
theorem dX10_layOf_5 : decode cX10_layOf 5 = .ok (.bipush (-5), 2) := by decide +kernel
theorem dX10_layOf_7 : decode cX10_layOf 7 = .ok (.invokevirtual 409, 3) := by decide +kernel
theorem dX10_layOf_10 : decode cX10_layOf 10 = .ok (.istore_n 1, 1) := by decide +kernel
theorem dX10_layOf_11 : decode cX10_layOf 11 = .ok (.bipush (-5), 2) := by decide +kernel
theorem dX10_layOf_13 : decode cX10_layOf 13 = .ok (.istore_n 2, 1) := by decide +kernel
theorem dX10_layOf_14 : decode cX10_layOf 14 = .ok (.iconst 0, 1) := by decide +kernel
theorem dX10_layOf_15 : decode cX10_layOf 15 = .ok (.istore_n 3, 1) := by decide +kernel
theorem dX10_layOf_16 : decode cX10_layOf 16 = .ok (.iload_n 3, 1) := by decide +kernel
theorem dX10_layOf_17 : decode cX10_layOf 17 = .ok (.bipush 16, 2) := by decide +kernel
theorem dX10_layOf_19 : decode cX10_layOf 19 = .ok (.if_icmp .ge 30, 3) := by decide +kernel
theorem dX10_layOf_22 : decode cX10_layOf 22 = .ok (.aload_n 0, 1) := by decide +kernel
theorem dX10_layOf_23 : decode cX10_layOf 23 = .ok (.iload_n 3, 1) := by decide +kernel
theorem dX10_layOf_24 : decode cX10_layOf 24 = .ok (.invokevirtual 409, 3) := by decide +kernel
theorem dX10_layOf_27 : decode cX10_layOf 27 = .ok (.istore 4, 2) := by decide +kernel
theorem dX10_layOf_29 : decode cX10_layOf 29 = .ok (.iload 4, 2) := by decide +kernel
theorem dX10_layOf_31 : decode cX10_layOf 31 = .ok (.iload_n 1, 1) := by decide +kernel
theorem dX10_layOf_32 : decode cX10_layOf 32 = .ok (.if_icmp .lt 6, 3) := by decide +kernel
theorem dX10_layOf_35 : decode cX10_layOf 35 = .ok (.goto 8, 3) := by decide +kernel
theorem dX10_layOf_38 : decode cX10_layOf 38 = .ok (.iload_n 3, 1) := by decide +kernel
theorem dX10_layOf_39 : decode cX10_layOf 39 = .ok (.istore_n 2, 1) := by decide +kernel
theorem dX10_layOf_40 : decode cX10_layOf 40 = .ok (.iload 4, 2) := by decide +kernel
theorem dX10_layOf_42 : decode cX10_layOf 42 = .ok (.istore_n 1, 1) := by decide +kernel
theorem dX10_layOf_43 : decode cX10_layOf 43 = .ok (.iinc 3 1, 3) := by decide +kernel
theorem dX10_layOf_46 : decode cX10_layOf 46 = .ok (.goto (-30), 3) := by decide +kernel
theorem dX10_layOf_49 : decode cX10_layOf 49 = .ok (.iload_n 2, 1) := by decide +kernel
theorem dX10_layOf_50 : decode cX10_layOf 50 = .ok (.ireturn, 1) := by decide +kernel
theorem dX10_best_0 : decode cX10_best 0 = .ok (.iload_n 1, 1) := by decide +kernel
theorem dX10_best_1 : decode cX10_best 1 = .ok (.ifCond .ne 10, 3) := by decide +kernel
theorem dX10_best_4 : decode cX10_best 4 = .ok (.aload_n 0, 1) := by decide +kernel
theorem dX10_best_5 : decode cX10_best 5 = .ok (.invokevirtual 412, 3) := by decide +kernel
theorem dX10_best_8 : decode cX10_best 8 = .ok (.goto 16, 3) := by decide +kernel
theorem dX10_best_11 : decode cX10_best 11 = .ok (.iload_n 1, 1) := by decide +kernel
theorem dX10_best_12 : decode cX10_best 12 = .ok (.iconst 1, 1) := by decide +kernel
theorem dX10_best_13 : decode cX10_best 13 = .ok (.if_icmp .ne 10, 3) := by decide +kernel
theorem dX10_best_16 : decode cX10_best 16 = .ok (.aload_n 0, 1) := by decide +kernel
theorem dX10_best_17 : decode cX10_best 17 = .ok (.invokevirtual 415, 3) := by decide +kernel
theorem dX10_best_20 : decode cX10_best 20 = .ok (.goto 4, 3) := by decide +kernel
theorem dX10_best_23 : decode cX10_best 23 = .ok (.iconst (-1), 1) := by decide +kernel
theorem dX10_best_24 : decode cX10_best 24 = .ok (.ireturn, 1) := by decide +kernel
theorem dX10_see_0 : decode cX10_see 0 = .ok (.iload_n 1, 1) := by decide +kernel
theorem dX10_see_1 : decode cX10_see 1 = .ok (.iconst (-1), 1) := by decide +kernel
theorem dX10_see_2 : decode cX10_see 2 = .ok (.if_icmp .ne 10, 3) := by decide +kernel
theorem dX10_see_5 : decode cX10_see 5 = .ok (.aload_n 0, 1) := by decide +kernel
theorem dX10_see_6 : decode cX10_see 6 = .ok (.iconst 0, 1) := by decide +kernel
theorem dX10_see_7 : decode cX10_see 7 = .ok (.putfield 129, 3) := by decide +kernel
theorem dX10_see_10 : decode cX10_see 10 = .ok (.iconst 0, 1) := by decide +kernel
theorem dX10_see_11 : decode cX10_see 11 = .ok (.ireturn, 1) := by decide +kernel
theorem dX10_see_12 : decode cX10_see 12 = .ok (.aload_n 0, 1) := by decide +kernel
theorem dX10_see_13 : decode cX10_see 13 = .ok (.iload_n 1, 1) := by decide +kernel
theorem dX10_see_14 : decode cX10_see 14 = .ok (.invokevirtual 257, 3) := by decide +kernel
theorem dX10_see_17 : decode cX10_see 17 = .ok (.ifCond .ne 5, 3) := by decide +kernel
theorem dX10_see_20 : decode cX10_see 20 = .ok (.iconst (-1), 1) := by decide +kernel
theorem dX10_see_21 : decode cX10_see 21 = .ok (.ireturn, 1) := by decide +kernel
theorem dX10_see_22 : decode cX10_see 22 = .ok (.aload_n 0, 1) := by decide +kernel
theorem dX10_see_23 : decode cX10_see 23 = .ok (.iload_n 2, 1) := by decide +kernel
theorem dX10_see_24 : decode cX10_see 24 = .ok (.invokevirtual 261, 3) := by decide +kernel
theorem dX10_see_27 : decode cX10_see 27 = .ok (.ifCond .eq 14, 3) := by decide +kernel
theorem dX10_see_30 : decode cX10_see 30 = .ok (.aload_n 0, 1) := by decide +kernel
theorem dX10_see_31 : decode cX10_see 31 = .ok (.iload_n 3, 1) := by decide +kernel
theorem dX10_see_32 : decode cX10_see 32 = .ok (.iconst 0, 1) := by decide +kernel
theorem dX10_see_33 : decode cX10_see 33 = .ok (.bipush 20, 2) := by decide +kernel
theorem dX10_see_35 : decode cX10_see 35 = .ok (.invokevirtual 253, 3) := by decide +kernel
theorem dX10_see_38 : decode cX10_see 38 = .ok (.ifCond .ne 6, 3) := by decide +kernel
theorem dX10_see_41 : decode cX10_see 41 = .ok (.bipush (-2), 2) := by decide +kernel
theorem dX10_see_43 : decode cX10_see 43 = .ok (.ireturn, 1) := by decide +kernel
theorem dX10_see_44 : decode cX10_see 44 = .ok (.aload_n 0, 1) := by decide +kernel
theorem dX10_see_45 : decode cX10_see 45 = .ok (.getfield 129, 3) := by decide +kernel
theorem dX10_see_48 : decode cX10_see 48 = .ok (.iconst 5, 1) := by decide +kernel
theorem dX10_see_49 : decode cX10_see 49 = .ok (.if_icmp .ne 6, 3) := by decide +kernel
theorem dX10_see_52 : decode cX10_see 52 = .ok (.bipush (-4), 2) := by decide +kernel
theorem dX10_see_54 : decode cX10_see 54 = .ok (.ireturn, 1) := by decide +kernel
theorem dX10_see_55 : decode cX10_see 55 = .ok (.aload_n 0, 1) := by decide +kernel
theorem dX10_see_56 : decode cX10_see 56 = .ok (.getfield 132, 3) := by decide +kernel
theorem dX10_see_59 : decode cX10_see 59 = .ok (.aload_n 0, 1) := by decide +kernel
theorem dX10_see_60 : decode cX10_see 60 = .ok (.getfield 129, 3) := by decide +kernel
theorem dX10_see_63 : decode cX10_see 63 = .ok (.iload_n 1, 1) := by decide +kernel
theorem dX10_see_64 : decode cX10_see 64 = .ok (.iastore, 1) := by decide +kernel
theorem dX10_see_65 : decode cX10_see 65 = .ok (.aload_n 0, 1) := by decide +kernel
theorem dX10_see_66 : decode cX10_see 66 = .ok (.getfield 135, 3) := by decide +kernel
theorem dX10_see_69 : decode cX10_see 69 = .ok (.aload_n 0, 1) := by decide +kernel
theorem dX10_see_70 : decode cX10_see 70 = .ok (.getfield 129, 3) := by decide +kernel
theorem dX10_see_73 : decode cX10_see 73 = .ok (.iload_n 2, 1) := by decide +kernel
theorem dX10_see_74 : decode cX10_see 74 = .ok (.iastore, 1) := by decide +kernel
theorem dX10_see_75 : decode cX10_see 75 = .ok (.aload_n 0, 1) := by decide +kernel
theorem dX10_see_76 : decode cX10_see 76 = .ok (.getfield 138, 3) := by decide +kernel
theorem dX10_see_79 : decode cX10_see 79 = .ok (.aload_n 0, 1) := by decide +kernel
theorem dX10_see_80 : decode cX10_see 80 = .ok (.getfield 129, 3) := by decide +kernel
theorem dX10_see_83 : decode cX10_see 83 = .ok (.iload_n 3, 1) := by decide +kernel
theorem dX10_see_84 : decode cX10_see 84 = .ok (.iastore, 1) := by decide +kernel
theorem dX10_see_85 : decode cX10_see 85 = .ok (.aload_n 0, 1) := by decide +kernel
theorem dX10_see_86 : decode cX10_see 86 = .ok (.dup, 1) := by decide +kernel
theorem dX10_see_87 : decode cX10_see 87 = .ok (.getfield 129, 3) := by decide +kernel
theorem dX10_see_90 : decode cX10_see 90 = .ok (.iconst 1, 1) := by decide +kernel
theorem dX10_see_91 : decode cX10_see 91 = .ok (.iadd, 1) := by decide +kernel
theorem dX10_see_92 : decode cX10_see 92 = .ok (.putfield 129, 3) := by decide +kernel
theorem dX10_see_95 : decode cX10_see 95 = .ok (.aload_n 0, 1) := by decide +kernel
theorem dX10_see_96 : decode cX10_see 96 = .ok (.getfield 129, 3) := by decide +kernel
theorem dX10_see_99 : decode cX10_see 99 = .ok (.ireturn, 1) := by decide +kernel
theorem dX10_isSeen_0 : decode cX10_isSeen 0 = .ok (.aload_n 0, 1) := by decide +kernel
theorem dX10_isSeen_1 : decode cX10_isSeen 1 = .ok (.invokevirtual 361, 3) := by decide +kernel
theorem dX10_isSeen_4 : decode cX10_isSeen 4 = .ok (.iconst 0, 1) := by decide +kernel
theorem dX10_isSeen_5 : decode cX10_isSeen 5 = .ok (.istore_n 2, 1) := by decide +kernel
theorem dX10_isSeen_6 : decode cX10_isSeen 6 = .ok (.iload_n 2, 1) := by decide +kernel
theorem dX10_isSeen_7 : decode cX10_isSeen 7 = .ok (.aload_n 0, 1) := by decide +kernel
theorem dX10_isSeen_8 : decode cX10_isSeen 8 = .ok (.getfield 129, 3) := by decide +kernel
theorem dX10_isSeen_11 : decode cX10_isSeen 11 = .ok (.if_icmp .ge 107, 3) := by decide +kernel
theorem dX10_isSeen_14 : decode cX10_isSeen 14 = .ok (.iconst 0, 1) := by decide +kernel
theorem dX10_isSeen_15 : decode cX10_isSeen 15 = .ok (.istore_n 3, 1) := by decide +kernel
theorem dX10_isSeen_16 : decode cX10_isSeen 16 = .ok (.iconst 0, 1) := by decide +kernel
theorem dX10_isSeen_17 : decode cX10_isSeen 17 = .ok (.istore 4, 2) := by decide +kernel
theorem dX10_isSeen_19 : decode cX10_isSeen 19 = .ok (.iload 4, 2) := by decide +kernel
theorem dX10_isSeen_21 : decode cX10_isSeen 21 = .ok (.aload_n 0, 1) := by decide +kernel
theorem dX10_isSeen_22 : decode cX10_isSeen 22 = .ok (.getfield 138, 3) := by decide +kernel
theorem dX10_isSeen_25 : decode cX10_isSeen 25 = .ok (.iload_n 2, 1) := by decide +kernel
theorem dX10_isSeen_26 : decode cX10_isSeen 26 = .ok (.iaload, 1) := by decide +kernel
theorem dX10_isSeen_27 : decode cX10_isSeen 27 = .ok (.if_icmp .ge 73, 3) := by decide +kernel
theorem dX10_isSeen_30 : decode cX10_isSeen 30 = .ok (.iconst 0, 1) := by decide +kernel
theorem dX10_isSeen_31 : decode cX10_isSeen 31 = .ok (.istore 5, 2) := by decide +kernel
theorem dX10_isSeen_33 : decode cX10_isSeen 33 = .ok (.iload 5, 2) := by decide +kernel
theorem dX10_isSeen_35 : decode cX10_isSeen 35 = .ok (.aload_n 0, 1) := by decide +kernel
theorem dX10_isSeen_36 : decode cX10_isSeen 36 = .ok (.getfield 7, 3) := by decide +kernel
theorem dX10_isSeen_39 : decode cX10_isSeen 39 = .ok (.if_icmp .ge 55, 3) := by decide +kernel
theorem dX10_isSeen_42 : decode cX10_isSeen 42 = .ok (.iload_n 3, 1) := by decide +kernel
theorem dX10_isSeen_43 : decode cX10_isSeen 43 = .ok (.aload_n 0, 1) := by decide +kernel
theorem dX10_isSeen_44 : decode cX10_isSeen 44 = .ok (.iload_n 1, 1) := by decide +kernel
theorem dX10_isSeen_45 : decode cX10_isSeen 45 = .ok (.iload 5, 2) := by decide +kernel
theorem dX10_isSeen_47 : decode cX10_isSeen 47 = .ok (.invokevirtual 245, 3) := by decide +kernel
theorem dX10_isSeen_50 : decode cX10_isSeen 50 = .ok (.ifCond .eq 35, 3) := by decide +kernel
theorem dX10_isSeen_53 : decode cX10_isSeen 53 = .ok (.aload_n 0, 1) := by decide +kernel
theorem dX10_isSeen_54 : decode cX10_isSeen 54 = .ok (.getfield 108, 3) := by decide +kernel
theorem dX10_isSeen_57 : decode cX10_isSeen 57 = .ok (.bipush 64, 2) := by decide +kernel
theorem dX10_isSeen_59 : decode cX10_isSeen 59 = .ok (.iload 5, 2) := by decide +kernel
theorem dX10_isSeen_61 : decode cX10_isSeen 61 = .ok (.imul, 1) := by decide +kernel
theorem dX10_isSeen_62 : decode cX10_isSeen 62 = .ok (.iconst 4, 1) := by decide +kernel
theorem dX10_isSeen_63 : decode cX10_isSeen 63 = .ok (.aload_n 0, 1) := by decide +kernel
theorem dX10_isSeen_64 : decode cX10_isSeen 64 = .ok (.getfield 132, 3) := by decide +kernel
theorem dX10_isSeen_67 : decode cX10_isSeen 67 = .ok (.iload_n 2, 1) := by decide +kernel
theorem dX10_isSeen_68 : decode cX10_isSeen 68 = .ok (.iaload, 1) := by decide +kernel
theorem dX10_isSeen_69 : decode cX10_isSeen 69 = .ok (.imul, 1) := by decide +kernel
theorem dX10_isSeen_70 : decode cX10_isSeen 70 = .ok (.iadd, 1) := by decide +kernel
theorem dX10_isSeen_71 : decode cX10_isSeen 71 = .ok (.aload_n 0, 1) := by decide +kernel
theorem dX10_isSeen_72 : decode cX10_isSeen 72 = .ok (.getfield 19, 3) := by decide +kernel
theorem dX10_isSeen_75 : decode cX10_isSeen 75 = .ok (.iload 4, 2) := by decide +kernel
theorem dX10_isSeen_77 : decode cX10_isSeen 77 = .ok (.iadd, 1) := by decide +kernel
theorem dX10_isSeen_78 : decode cX10_isSeen 78 = .ok (.iconst 4, 1) := by decide +kernel
theorem dX10_isSeen_79 : decode cX10_isSeen 79 = .ok (.irem, 1) := by decide +kernel
theorem dX10_isSeen_80 : decode cX10_isSeen 80 = .ok (.iadd, 1) := by decide +kernel
theorem dX10_isSeen_81 : decode cX10_isSeen 81 = .ok (.iaload, 1) := by decide +kernel
theorem dX10_isSeen_82 : decode cX10_isSeen 82 = .ok (.goto 4, 3) := by decide +kernel
theorem dX10_isSeen_85 : decode cX10_isSeen 85 = .ok (.iconst 0, 1) := by decide +kernel
theorem dX10_isSeen_86 : decode cX10_isSeen 86 = .ok (.iadd, 1) := by decide +kernel
theorem dX10_isSeen_87 : decode cX10_isSeen 87 = .ok (.istore_n 3, 1) := by decide +kernel
theorem dX10_isSeen_88 : decode cX10_isSeen 88 = .ok (.iinc 5 1, 3) := by decide +kernel
theorem dX10_isSeen_91 : decode cX10_isSeen 91 = .ok (.goto (-58), 3) := by decide +kernel
theorem dX10_isSeen_94 : decode cX10_isSeen 94 = .ok (.iinc 4 1, 3) := by decide +kernel
theorem dX10_isSeen_97 : decode cX10_isSeen 97 = .ok (.goto (-78), 3) := by decide +kernel
theorem dX10_isSeen_100 : decode cX10_isSeen 100 = .ok (.iload_n 3, 1) := by decide +kernel
theorem dX10_isSeen_101 : decode cX10_isSeen 101 = .ok (.aload_n 0, 1) := by decide +kernel
theorem dX10_isSeen_102 : decode cX10_isSeen 102 = .ok (.getfield 135, 3) := by decide +kernel
theorem dX10_isSeen_105 : decode cX10_isSeen 105 = .ok (.iload_n 2, 1) := by decide +kernel
theorem dX10_isSeen_106 : decode cX10_isSeen 106 = .ok (.iaload, 1) := by decide +kernel
theorem dX10_isSeen_107 : decode cX10_isSeen 107 = .ok (.if_icmp .eq 5, 3) := by decide +kernel
theorem dX10_isSeen_110 : decode cX10_isSeen 110 = .ok (.iconst 0, 1) := by decide +kernel
theorem dX10_isSeen_111 : decode cX10_isSeen 111 = .ok (.ireturn, 1) := by decide +kernel
theorem dX10_isSeen_112 : decode cX10_isSeen 112 = .ok (.iinc 2 1, 3) := by decide +kernel
theorem dX10_isSeen_115 : decode cX10_isSeen 115 = .ok (.goto (-109), 3) := by decide +kernel
theorem dX10_isSeen_118 : decode cX10_isSeen 118 = .ok (.iconst 1, 1) := by decide +kernel
theorem dX10_isSeen_119 : decode cX10_isSeen 119 = .ok (.ireturn, 1) := by decide +kernel
theorem dX10_starts_0 : decode cX10_starts 0 = .ok (.aload_n 0, 1) := by decide +kernel
theorem dX10_starts_1 : decode cX10_starts 1 = .ok (.iload_n 1, 1) := by decide +kernel
theorem dX10_starts_2 : decode cX10_starts 2 = .ok (.invokevirtual 264, 3) := by decide +kernel
theorem dX10_starts_5 : decode cX10_starts 5 = .ok (.ifCond .ne 5, 3) := by decide +kernel
theorem dX10_starts_8 : decode cX10_starts 8 = .ok (.iconst (-1), 1) := by decide +kernel
theorem dX10_starts_9 : decode cX10_starts 9 = .ok (.ireturn, 1) := by decide +kernel
theorem dX10_starts_10 : decode cX10_starts 10 = .ok (.aload_n 0, 1) := by decide +kernel
theorem dX10_starts_11 : decode cX10_starts 11 = .ok (.getfield 32, 3) := by decide +kernel
theorem dX10_starts_14 : decode cX10_starts 14 = .ok (.iload_n 1, 1) := by decide +kernel
theorem dX10_starts_15 : decode cX10_starts 15 = .ok (.iaload, 1) := by decide +kernel
theorem dX10_starts_16 : decode cX10_starts 16 = .ok (.istore_n 2, 1) := by decide +kernel
theorem dX10_starts_17 : decode cX10_starts 17 = .ok (.iconst 0, 1) := by decide +kernel
theorem dX10_starts_18 : decode cX10_starts 18 = .ok (.istore_n 3, 1) := by decide +kernel
theorem dX10_starts_19 : decode cX10_starts 19 = .ok (.iconst 0, 1) := by decide +kernel
theorem dX10_starts_20 : decode cX10_starts 20 = .ok (.istore 4, 2) := by decide +kernel
theorem dX10_starts_22 : decode cX10_starts 22 = .ok (.iload 4, 2) := by decide +kernel
theorem dX10_starts_24 : decode cX10_starts 24 = .ok (.bipush 16, 2) := by decide +kernel
theorem dX10_starts_26 : decode cX10_starts 26 = .ok (.if_icmp .ge 39, 3) := by decide +kernel
theorem dX10_starts_29 : decode cX10_starts 29 = .ok (.aload_n 0, 1) := by decide +kernel
theorem dX10_starts_30 : decode cX10_starts 30 = .ok (.getfield 32, 3) := by decide +kernel
theorem dX10_starts_33 : decode cX10_starts 33 = .ok (.iload_n 1, 1) := by decide +kernel
theorem dX10_starts_34 : decode cX10_starts 34 = .ok (.iload 4, 2) := by decide +kernel
theorem dX10_starts_36 : decode cX10_starts 36 = .ok (.iastore, 1) := by decide +kernel
theorem dX10_starts_37 : decode cX10_starts 37 = .ok (.iload_n 3, 1) := by decide +kernel
theorem dX10_starts_38 : decode cX10_starts 38 = .ok (.aload_n 0, 1) := by decide +kernel
theorem dX10_starts_39 : decode cX10_starts 39 = .ok (.aload_n 0, 1) := by decide +kernel
theorem dX10_starts_40 : decode cX10_starts 40 = .ok (.invokevirtual 364, 3) := by decide +kernel
theorem dX10_starts_43 : decode cX10_starts 43 = .ok (.invokevirtual 418, 3) := by decide +kernel
theorem dX10_starts_46 : decode cX10_starts 46 = .ok (.ifCond .eq 10, 3) := by decide +kernel
theorem dX10_starts_49 : decode cX10_starts 49 = .ok (.iconst 1, 1) := by decide +kernel
theorem dX10_starts_50 : decode cX10_starts 50 = .ok (.iload 4, 2) := by decide +kernel
theorem dX10_starts_52 : decode cX10_starts 52 = .ok (.ishl, 1) := by decide +kernel
theorem dX10_starts_53 : decode cX10_starts 53 = .ok (.goto 4, 3) := by decide +kernel
theorem dX10_starts_56 : decode cX10_starts 56 = .ok (.iconst 0, 1) := by decide +kernel
theorem dX10_starts_57 : decode cX10_starts 57 = .ok (.ior, 1) := by decide +kernel
theorem dX10_starts_58 : decode cX10_starts 58 = .ok (.istore_n 3, 1) := by decide +kernel
theorem dX10_starts_59 : decode cX10_starts 59 = .ok (.iinc 4 1, 3) := by decide +kernel
theorem dX10_starts_62 : decode cX10_starts 62 = .ok (.goto (-40), 3) := by decide +kernel
theorem dX10_starts_65 : decode cX10_starts 65 = .ok (.aload_n 0, 1) := by decide +kernel
theorem dX10_starts_66 : decode cX10_starts 66 = .ok (.getfield 32, 3) := by decide +kernel
theorem dX10_starts_69 : decode cX10_starts 69 = .ok (.iload_n 1, 1) := by decide +kernel
theorem dX10_starts_70 : decode cX10_starts 70 = .ok (.iload_n 2, 1) := by decide +kernel
theorem dX10_starts_71 : decode cX10_starts 71 = .ok (.iastore, 1) := by decide +kernel
theorem dX10_starts_72 : decode cX10_starts 72 = .ok (.iload_n 3, 1) := by decide +kernel
theorem dX10_starts_73 : decode cX10_starts 73 = .ok (.ireturn, 1) := by decide +kernel
theorem dX10_can_0 : decode cX10_can 0 = .ok (.aload_n 0, 1) := by decide +kernel
theorem dX10_can_1 : decode cX10_can 1 = .ok (.iload_n 1, 1) := by decide +kernel
theorem dX10_can_2 : decode cX10_can 2 = .ok (.invokevirtual 264, 3) := by decide +kernel
theorem dX10_can_5 : decode cX10_can 5 = .ok (.ifCond .eq 13, 3) := by decide +kernel
theorem dX10_can_8 : decode cX10_can 8 = .ok (.aload_n 0, 1) := by decide +kernel
theorem dX10_can_9 : decode cX10_can 9 = .ok (.iload_n 2, 1) := by decide +kernel
theorem dX10_can_10 : decode cX10_can 10 = .ok (.iconst 0, 1) := by decide +kernel
theorem dX10_can_11 : decode cX10_can 11 = .ok (.iconst 1, 1) := by decide +kernel
theorem dX10_can_12 : decode cX10_can 12 = .ok (.invokevirtual 253, 3) := by decide +kernel
theorem dX10_can_15 : decode cX10_can 15 = .ok (.ifCond .ne 5, 3) := by decide +kernel
theorem dX10_can_18 : decode cX10_can 18 = .ok (.iconst (-1), 1) := by decide +kernel
theorem dX10_can_19 : decode cX10_can 19 = .ok (.ireturn, 1) := by decide +kernel
theorem dX10_can_20 : decode cX10_can 20 = .ok (.aload_n 0, 1) := by decide +kernel
theorem dX10_can_21 : decode cX10_can 21 = .ok (.getfield 29, 3) := by decide +kernel
theorem dX10_can_24 : decode cX10_can 24 = .ok (.iload_n 1, 1) := by decide +kernel
theorem dX10_can_25 : decode cX10_can 25 = .ok (.iaload, 1) := by decide +kernel
theorem dX10_can_26 : decode cX10_can 26 = .ok (.istore_n 3, 1) := by decide +kernel
theorem dX10_can_27 : decode cX10_can 27 = .ok (.iconst 0, 1) := by decide +kernel
theorem dX10_can_28 : decode cX10_can 28 = .ok (.istore 4, 2) := by decide +kernel
theorem dX10_can_30 : decode cX10_can 30 = .ok (.bipush (-5), 2) := by decide +kernel
theorem dX10_can_32 : decode cX10_can 32 = .ok (.istore 5, 2) := by decide +kernel
theorem dX10_can_34 : decode cX10_can 34 = .ok (.bipush 9, 2) := by decide +kernel
theorem dX10_can_36 : decode cX10_can 36 = .ok (.istore 6, 2) := by decide +kernel
theorem dX10_can_38 : decode cX10_can 38 = .ok (.iload 6, 2) := by decide +kernel
theorem dX10_can_40 : decode cX10_can 40 = .ok (.ifCond .lt 38, 3) := by decide +kernel
theorem dX10_can_43 : decode cX10_can 43 = .ok (.aload_n 0, 1) := by decide +kernel
theorem dX10_can_44 : decode cX10_can 44 = .ok (.getfield 29, 3) := by decide +kernel
theorem dX10_can_47 : decode cX10_can 47 = .ok (.iload_n 1, 1) := by decide +kernel
theorem dX10_can_48 : decode cX10_can 48 = .ok (.iload 6, 2) := by decide +kernel
theorem dX10_can_50 : decode cX10_can 50 = .ok (.iastore, 1) := by decide +kernel
theorem dX10_can_51 : decode cX10_can 51 = .ok (.aload_n 0, 1) := by decide +kernel
theorem dX10_can_52 : decode cX10_can 52 = .ok (.aload_n 0, 1) := by decide +kernel
theorem dX10_can_53 : decode cX10_can 53 = .ok (.invokevirtual 364, 3) := by decide +kernel
theorem dX10_can_56 : decode cX10_can 56 = .ok (.invokevirtual 418, 3) := by decide +kernel
theorem dX10_can_59 : decode cX10_can 59 = .ok (.ifCond .ne 6, 3) := by decide +kernel
theorem dX10_can_62 : decode cX10_can 62 = .ok (.goto 10, 3) := by decide +kernel
theorem dX10_can_65 : decode cX10_can 65 = .ok (.iinc 4 1, 3) := by decide +kernel
theorem dX10_can_68 : decode cX10_can 68 = .ok (.iload 6, 2) := by decide +kernel
theorem dX10_can_70 : decode cX10_can 70 = .ok (.istore 5, 2) := by decide +kernel
theorem dX10_can_72 : decode cX10_can 72 = .ok (.iinc 6 (-1), 3) := by decide +kernel
theorem dX10_can_75 : decode cX10_can 75 = .ok (.goto (-37), 3) := by decide +kernel
theorem dX10_can_78 : decode cX10_can 78 = .ok (.aload_n 0, 1) := by decide +kernel
theorem dX10_can_79 : decode cX10_can 79 = .ok (.getfield 29, 3) := by decide +kernel
theorem dX10_can_82 : decode cX10_can 82 = .ok (.iload_n 1, 1) := by decide +kernel
theorem dX10_can_83 : decode cX10_can 83 = .ok (.iload_n 3, 1) := by decide +kernel
theorem dX10_can_84 : decode cX10_can 84 = .ok (.iastore, 1) := by decide +kernel
theorem dX10_can_85 : decode cX10_can 85 = .ok (.iload_n 2, 1) := by decide +kernel
theorem dX10_can_86 : decode cX10_can 86 = .ok (.ifCond .ne 8, 3) := by decide +kernel
theorem dX10_can_89 : decode cX10_can 89 = .ok (.iload 4, 2) := by decide +kernel
theorem dX10_can_91 : decode cX10_can 91 = .ok (.goto 5, 3) := by decide +kernel
theorem dX10_can_94 : decode cX10_can 94 = .ok (.iload 5, 2) := by decide +kernel
theorem dX10_can_96 : decode cX10_can 96 = .ok (.ireturn, 1) := by decide +kernel
theorem dX10_sole_0 : decode cX10_sole 0 = .ok (.iconst 0, 1) := by decide +kernel
theorem dX10_sole_1 : decode cX10_sole 1 = .ok (.istore_n 1, 1) := by decide +kernel
theorem dX10_sole_2 : decode cX10_sole 2 = .ok (.iconst 0, 1) := by decide +kernel
theorem dX10_sole_3 : decode cX10_sole 3 = .ok (.istore_n 2, 1) := by decide +kernel
theorem dX10_sole_4 : decode cX10_sole 4 = .ok (.iload_n 2, 1) := by decide +kernel
theorem dX10_sole_5 : decode cX10_sole 5 = .ok (.aload_n 0, 1) := by decide +kernel
theorem dX10_sole_6 : decode cX10_sole 6 = .ok (.getfield 7, 3) := by decide +kernel
theorem dX10_sole_9 : decode cX10_sole 9 = .ok (.if_icmp .ge 29, 3) := by decide +kernel
theorem dX10_sole_12 : decode cX10_sole 12 = .ok (.iload_n 1, 1) := by decide +kernel
theorem dX10_sole_13 : decode cX10_sole 13 = .ok (.aload_n 0, 1) := by decide +kernel
theorem dX10_sole_14 : decode cX10_sole 14 = .ok (.iconst 1, 1) := by decide +kernel
theorem dX10_sole_15 : decode cX10_sole 15 = .ok (.iload_n 2, 1) := by decide +kernel
theorem dX10_sole_16 : decode cX10_sole 16 = .ok (.ishl, 1) := by decide +kernel
theorem dX10_sole_17 : decode cX10_sole 17 = .ok (.invokevirtual 418, 3) := by decide +kernel
theorem dX10_sole_20 : decode cX10_sole 20 = .ok (.ifCond .eq 9, 3) := by decide +kernel
theorem dX10_sole_23 : decode cX10_sole 23 = .ok (.iconst 1, 1) := by decide +kernel
theorem dX10_sole_24 : decode cX10_sole 24 = .ok (.iload_n 2, 1) := by decide +kernel
theorem dX10_sole_25 : decode cX10_sole 25 = .ok (.ishl, 1) := by decide +kernel
theorem dX10_sole_26 : decode cX10_sole 26 = .ok (.goto 4, 3) := by decide +kernel
theorem dX10_sole_29 : decode cX10_sole 29 = .ok (.iconst 0, 1) := by decide +kernel
theorem dX10_sole_30 : decode cX10_sole 30 = .ok (.ior, 1) := by decide +kernel
theorem dX10_sole_31 : decode cX10_sole 31 = .ok (.istore_n 1, 1) := by decide +kernel
theorem dX10_sole_32 : decode cX10_sole 32 = .ok (.iinc 2 1, 3) := by decide +kernel
theorem dX10_sole_35 : decode cX10_sole 35 = .ok (.goto (-31), 3) := by decide +kernel
theorem dX10_sole_38 : decode cX10_sole 38 = .ok (.iload_n 1, 1) := by decide +kernel
theorem dX10_sole_39 : decode cX10_sole 39 = .ok (.ireturn, 1) := by decide +kernel
theorem dX10_divisor_0 : decode cX10_divisor 0 = .ok (.iload_n 1, 1) := by decide +kernel
theorem dX10_divisor_1 : decode cX10_divisor 1 = .ok (.istore_n 3, 1) := by decide +kernel
theorem dX10_divisor_2 : decode cX10_divisor 2 = .ok (.iload_n 2, 1) := by decide +kernel
theorem dX10_divisor_3 : decode cX10_divisor 3 = .ok (.istore 4, 2) := by decide +kernel
theorem dX10_divisor_5 : decode cX10_divisor 5 = .ok (.iload 4, 2) := by decide +kernel
theorem dX10_divisor_7 : decode cX10_divisor 7 = .ok (.ifCond .eq 19, 3) := by decide +kernel
theorem dX10_divisor_10 : decode cX10_divisor 10 = .ok (.iload_n 3, 1) := by decide +kernel
theorem dX10_divisor_11 : decode cX10_divisor 11 = .ok (.iload 4, 2) := by decide +kernel
theorem dX10_divisor_13 : decode cX10_divisor 13 = .ok (.irem, 1) := by decide +kernel
theorem dX10_divisor_14 : decode cX10_divisor 14 = .ok (.istore 5, 2) := by decide +kernel
theorem dX10_divisor_16 : decode cX10_divisor 16 = .ok (.iload 4, 2) := by decide +kernel
theorem dX10_divisor_18 : decode cX10_divisor 18 = .ok (.istore_n 3, 1) := by decide +kernel
theorem dX10_divisor_19 : decode cX10_divisor 19 = .ok (.iload 5, 2) := by decide +kernel
theorem dX10_divisor_21 : decode cX10_divisor 21 = .ok (.istore 4, 2) := by decide +kernel
theorem dX10_divisor_23 : decode cX10_divisor 23 = .ok (.goto (-18), 3) := by decide +kernel
theorem dX10_divisor_26 : decode cX10_divisor 26 = .ok (.iload_n 3, 1) := by decide +kernel
theorem dX10_divisor_27 : decode cX10_divisor 27 = .ok (.ireturn, 1) := by decide +kernel
theorem dX10_lowest_0 : decode cX10_lowest 0 = .ok (.aload_n 0, 1) := by decide +kernel
theorem dX10_lowest_1 : decode cX10_lowest 1 = .ok (.iload_n 1, 1) := by decide +kernel
theorem dX10_lowest_2 : decode cX10_lowest 2 = .ok (.iload_n 2, 1) := by decide +kernel
theorem dX10_lowest_3 : decode cX10_lowest 3 = .ok (.invokevirtual 421, 3) := by decide +kernel
theorem dX10_lowest_6 : decode cX10_lowest 6 = .ok (.istore 4, 2) := by decide +kernel
theorem dX10_lowest_8 : decode cX10_lowest 8 = .ok (.iload_n 3, 1) := by decide +kernel
theorem dX10_lowest_9 : decode cX10_lowest 9 = .ok (.ifCond .ne 11, 3) := by decide +kernel
theorem dX10_lowest_12 : decode cX10_lowest 12 = .ok (.iload_n 1, 1) := by decide +kernel
theorem dX10_lowest_13 : decode cX10_lowest 13 = .ok (.iload 4, 2) := by decide +kernel
theorem dX10_lowest_15 : decode cX10_lowest 15 = .ok (.idiv, 1) := by decide +kernel
theorem dX10_lowest_16 : decode cX10_lowest 16 = .ok (.i2l, 1) := by decide +kernel
theorem dX10_lowest_17 : decode cX10_lowest 17 = .ok (.goto 8, 3) := by decide +kernel
theorem dX10_lowest_20 : decode cX10_lowest 20 = .ok (.iload_n 2, 1) := by decide +kernel
theorem dX10_lowest_21 : decode cX10_lowest 21 = .ok (.iload 4, 2) := by decide +kernel
theorem dX10_lowest_23 : decode cX10_lowest 23 = .ok (.idiv, 1) := by decide +kernel
theorem dX10_lowest_24 : decode cX10_lowest 24 = .ok (.i2l, 1) := by decide +kernel
theorem dX10_lowest_25 : decode cX10_lowest 25 = .ok (.lreturn, 1) := by decide +kernel
theorem dX10_odds_0 : decode cX10_odds 0 = .ok (.aload_n 0, 1) := by decide +kernel
theorem dX10_odds_1 : decode cX10_odds 1 = .ok (.iload_n 1, 1) := by decide +kernel
theorem dX10_odds_2 : decode cX10_odds 2 = .ok (.invokevirtual 257, 3) := by decide +kernel
theorem dX10_odds_5 : decode cX10_odds 5 = .ok (.ifCond .eq 28, 3) := by decide +kernel
theorem dX10_odds_8 : decode cX10_odds 8 = .ok (.aload_n 0, 1) := by decide +kernel
theorem dX10_odds_9 : decode cX10_odds 9 = .ok (.iload_n 2, 1) := by decide +kernel
theorem dX10_odds_10 : decode cX10_odds 10 = .ok (.invokevirtual 358, 3) := by decide +kernel
theorem dX10_odds_13 : decode cX10_odds 13 = .ok (.ifCond .eq 20, 3) := by decide +kernel
theorem dX10_odds_16 : decode cX10_odds 16 = .ok (.aload_n 0, 1) := by decide +kernel
theorem dX10_odds_17 : decode cX10_odds 17 = .ok (.iload_n 3, 1) := by decide +kernel
theorem dX10_odds_18 : decode cX10_odds 18 = .ok (.iconst 0, 1) := by decide +kernel
theorem dX10_odds_19 : decode cX10_odds 19 = .ok (.iconst 1, 1) := by decide +kernel
theorem dX10_odds_20 : decode cX10_odds 20 = .ok (.invokevirtual 253, 3) := by decide +kernel
theorem dX10_odds_23 : decode cX10_odds 23 = .ok (.ifCond .eq 10, 3) := by decide +kernel
theorem dX10_odds_26 : decode cX10_odds 26 = .ok (.aload_n 0, 1) := by decide +kernel
theorem dX10_odds_27 : decode cX10_odds 27 = .ok (.getfield 7, 3) := by decide +kernel
theorem dX10_odds_30 : decode cX10_odds 30 = .ok (.ifCond .ne 7, 3) := by decide +kernel
theorem dX10_odds_33 : decode cX10_odds 33 = .ok (.ldc2_w 424, 3) := by decide +kernel
theorem dX10_odds_36 : decode cX10_odds 36 = .ok (.lreturn, 1) := by decide +kernel
theorem dX10_odds_37 : decode cX10_odds 37 = .ok (.aload_n 0, 1) := by decide +kernel
theorem dX10_odds_38 : decode cX10_odds 38 = .ok (.invokevirtual 361, 3) := by decide +kernel
theorem dX10_odds_41 : decode cX10_odds 41 = .ok (.iconst 0, 1) := by decide +kernel
theorem dX10_odds_42 : decode cX10_odds 42 = .ok (.istore 4, 2) := by decide +kernel
theorem dX10_odds_44 : decode cX10_odds 44 = .ok (.iconst 0, 1) := by decide +kernel
theorem dX10_odds_45 : decode cX10_odds 45 = .ok (.istore 5, 2) := by decide +kernel
theorem dX10_odds_47 : decode cX10_odds 47 = .ok (.iload 5, 2) := by decide +kernel
theorem dX10_odds_49 : decode cX10_odds 49 = .ok (.aload_n 0, 1) := by decide +kernel
theorem dX10_odds_50 : decode cX10_odds 50 = .ok (.getfield 7, 3) := by decide +kernel
theorem dX10_odds_53 : decode cX10_odds 53 = .ok (.if_icmp .ge 56, 3) := by decide +kernel
theorem dX10_odds_56 : decode cX10_odds 56 = .ok (.aload_n 0, 1) := by decide +kernel
theorem dX10_odds_57 : decode cX10_odds 57 = .ok (.invokevirtual 375, 3) := by decide +kernel
theorem dX10_odds_60 : decode cX10_odds 60 = .ok (.aload_n 0, 1) := by decide +kernel
theorem dX10_odds_61 : decode cX10_odds 61 = .ok (.aload_n 0, 1) := by decide +kernel
theorem dX10_odds_62 : decode cX10_odds 62 = .ok (.invokevirtual 364, 3) := by decide +kernel
theorem dX10_odds_65 : decode cX10_odds 65 = .ok (.iconst 1, 1) := by decide +kernel
theorem dX10_odds_66 : decode cX10_odds 66 = .ok (.iload 5, 2) := by decide +kernel
theorem dX10_odds_68 : decode cX10_odds 68 = .ok (.ishl, 1) := by decide +kernel
theorem dX10_odds_69 : decode cX10_odds 69 = .ok (.iconst (-1), 1) := by decide +kernel
theorem dX10_odds_70 : decode cX10_odds 70 = .ok (.ixor, 1) := by decide +kernel
theorem dX10_odds_71 : decode cX10_odds 71 = .ok (.iand, 1) := by decide +kernel
theorem dX10_odds_72 : decode cX10_odds 72 = .ok (.iload_n 2, 1) := by decide +kernel
theorem dX10_odds_73 : decode cX10_odds 73 = .ok (.invokevirtual 367, 3) := by decide +kernel
theorem dX10_odds_76 : decode cX10_odds 76 = .ok (.iload 4, 2) := by decide +kernel
theorem dX10_odds_78 : decode cX10_odds 78 = .ok (.aload_n 0, 1) := by decide +kernel
theorem dX10_odds_79 : decode cX10_odds 79 = .ok (.getfield 22, 3) := by decide +kernel
theorem dX10_odds_82 : decode cX10_odds 82 = .ok (.iload_n 1, 1) := by decide +kernel
theorem dX10_odds_83 : decode cX10_odds 83 = .ok (.iaload, 1) := by decide +kernel
theorem dX10_odds_84 : decode cX10_odds 84 = .ok (.aload_n 0, 1) := by decide +kernel
theorem dX10_odds_85 : decode cX10_odds 85 = .ok (.invokevirtual 371, 3) := by decide +kernel
theorem dX10_odds_88 : decode cX10_odds 88 = .ok (.if_icmp .lt 7, 3) := by decide +kernel
theorem dX10_odds_91 : decode cX10_odds 91 = .ok (.iconst 1, 1) := by decide +kernel
theorem dX10_odds_92 : decode cX10_odds 92 = .ok (.goto 4, 3) := by decide +kernel
theorem dX10_odds_95 : decode cX10_odds 95 = .ok (.iconst 0, 1) := by decide +kernel
theorem dX10_odds_96 : decode cX10_odds 96 = .ok (.iadd, 1) := by decide +kernel
theorem dX10_odds_97 : decode cX10_odds 97 = .ok (.istore 4, 2) := by decide +kernel
theorem dX10_odds_99 : decode cX10_odds 99 = .ok (.aload_n 0, 1) := by decide +kernel
theorem dX10_odds_100 : decode cX10_odds 100 = .ok (.invokevirtual 378, 3) := by decide +kernel
theorem dX10_odds_103 : decode cX10_odds 103 = .ok (.iinc 5 1, 3) := by decide +kernel
theorem dX10_odds_106 : decode cX10_odds 106 = .ok (.goto (-59), 3) := by decide +kernel
theorem dX10_odds_109 : decode cX10_odds 109 = .ok (.aload_n 0, 1) := by decide +kernel
theorem dX10_odds_110 : decode cX10_odds 110 = .ok (.iload 4, 2) := by decide +kernel
theorem dX10_odds_112 : decode cX10_odds 112 = .ok (.aload_n 0, 1) := by decide +kernel
theorem dX10_odds_113 : decode cX10_odds 113 = .ok (.getfield 7, 3) := by decide +kernel
theorem dX10_odds_116 : decode cX10_odds 116 = .ok (.iload_n 3, 1) := by decide +kernel
theorem dX10_odds_117 : decode cX10_odds 117 = .ok (.invokevirtual 426, 3) := by decide +kernel
theorem dX10_odds_120 : decode cX10_odds 120 = .ok (.lreturn, 1) := by decide +kernel
theorem dX10_mean_0 : decode cX10_mean 0 = .ok (.aload_n 0, 1) := by decide +kernel
theorem dX10_mean_1 : decode cX10_mean 1 = .ok (.iload_n 1, 1) := by decide +kernel
theorem dX10_mean_2 : decode cX10_mean 2 = .ok (.invokevirtual 358, 3) := by decide +kernel
theorem dX10_mean_5 : decode cX10_mean 5 = .ok (.ifCond .eq 29, 3) := by decide +kernel
theorem dX10_mean_8 : decode cX10_mean 8 = .ok (.aload_n 0, 1) := by decide +kernel
theorem dX10_mean_9 : decode cX10_mean 9 = .ok (.iload_n 2, 1) := by decide +kernel
theorem dX10_mean_10 : decode cX10_mean 10 = .ok (.iconst 0, 1) := by decide +kernel
theorem dX10_mean_11 : decode cX10_mean 11 = .ok (.iconst 1, 1) := by decide +kernel
theorem dX10_mean_12 : decode cX10_mean 12 = .ok (.invokevirtual 253, 3) := by decide +kernel
theorem dX10_mean_15 : decode cX10_mean 15 = .ok (.ifCond .eq 19, 3) := by decide +kernel
theorem dX10_mean_18 : decode cX10_mean 18 = .ok (.aload_n 0, 1) := by decide +kernel
theorem dX10_mean_19 : decode cX10_mean 19 = .ok (.aload_n 0, 1) := by decide +kernel
theorem dX10_mean_20 : decode cX10_mean 20 = .ok (.iload_n 1, 1) := by decide +kernel
theorem dX10_mean_21 : decode cX10_mean 21 = .ok (.iconst 1, 1) := by decide +kernel
theorem dX10_mean_22 : decode cX10_mean 22 = .ok (.invokevirtual 430, 3) := by decide +kernel
theorem dX10_mean_25 : decode cX10_mean 25 = .ok (.bipush 16, 2) := by decide +kernel
theorem dX10_mean_27 : decode cX10_mean 27 = .ok (.iload_n 2, 1) := by decide +kernel
theorem dX10_mean_28 : decode cX10_mean 28 = .ok (.invokevirtual 426, 3) := by decide +kernel
theorem dX10_mean_31 : decode cX10_mean 31 = .ok (.goto 6, 3) := by decide +kernel
theorem dX10_mean_34 : decode cX10_mean 34 = .ok (.ldc2_w 424, 3) := by decide +kernel
theorem dX10_mean_37 : decode cX10_mean 37 = .ok (.lreturn, 1) := by decide +kernel
theorem dX10_plan_0 : decode cX10_plan 0 = .ok (.iload_n 1, 1) := by decide +kernel
theorem dX10_plan_1 : decode cX10_plan 1 = .ok (.iconst (-1), 1) := by decide +kernel
theorem dX10_plan_2 : decode cX10_plan 2 = .ok (.if_icmp .ne 10, 3) := by decide +kernel
theorem dX10_plan_5 : decode cX10_plan 5 = .ok (.aload_n 0, 1) := by decide +kernel
theorem dX10_plan_6 : decode cX10_plan 6 = .ok (.iconst 0, 1) := by decide +kernel
theorem dX10_plan_7 : decode cX10_plan 7 = .ok (.putfield 141, 3) := by decide +kernel
theorem dX10_plan_10 : decode cX10_plan 10 = .ok (.iconst 0, 1) := by decide +kernel
theorem dX10_plan_11 : decode cX10_plan 11 = .ok (.ireturn, 1) := by decide +kernel
theorem dX10_plan_12 : decode cX10_plan 12 = .ok (.aload_n 0, 1) := by decide +kernel
theorem dX10_plan_13 : decode cX10_plan 13 = .ok (.iload_n 1, 1) := by decide +kernel
theorem dX10_plan_14 : decode cX10_plan 14 = .ok (.iconst 0, 1) := by decide +kernel
theorem dX10_plan_15 : decode cX10_plan 15 = .ok (.iconst 3, 1) := by decide +kernel
theorem dX10_plan_16 : decode cX10_plan 16 = .ok (.invokevirtual 253, 3) := by decide +kernel
theorem dX10_plan_19 : decode cX10_plan 19 = .ok (.ifCond .eq 29, 3) := by decide +kernel
theorem dX10_plan_22 : decode cX10_plan 22 = .ok (.iload_n 1, 1) := by decide +kernel
theorem dX10_plan_23 : decode cX10_plan 23 = .ok (.iconst 1, 1) := by decide +kernel
theorem dX10_plan_24 : decode cX10_plan 24 = .ok (.if_icmp .ne 11, 3) := by decide +kernel
theorem dX10_plan_27 : decode cX10_plan 27 = .ok (.aload_n 0, 1) := by decide +kernel
theorem dX10_plan_28 : decode cX10_plan 28 = .ok (.iload_n 2, 1) := by decide +kernel
theorem dX10_plan_29 : decode cX10_plan 29 = .ok (.invokevirtual 264, 3) := by decide +kernel
theorem dX10_plan_32 : decode cX10_plan 32 = .ok (.ifCond .eq 16, 3) := by decide +kernel
theorem dX10_plan_35 : decode cX10_plan 35 = .ok (.iload_n 1, 1) := by decide +kernel
theorem dX10_plan_36 : decode cX10_plan 36 = .ok (.iconst 1, 1) := by decide +kernel
theorem dX10_plan_37 : decode cX10_plan 37 = .ok (.if_icmp .le 13, 3) := by decide +kernel
theorem dX10_plan_40 : decode cX10_plan 40 = .ok (.aload_n 0, 1) := by decide +kernel
theorem dX10_plan_41 : decode cX10_plan 41 = .ok (.iload_n 2, 1) := by decide +kernel
theorem dX10_plan_42 : decode cX10_plan 42 = .ok (.invokevirtual 257, 3) := by decide +kernel
theorem dX10_plan_45 : decode cX10_plan 45 = .ok (.ifCond .ne 5, 3) := by decide +kernel
theorem dX10_plan_48 : decode cX10_plan 48 = .ok (.iconst (-1), 1) := by decide +kernel
theorem dX10_plan_49 : decode cX10_plan 49 = .ok (.ireturn, 1) := by decide +kernel
theorem dX10_plan_50 : decode cX10_plan 50 = .ok (.aload_n 0, 1) := by decide +kernel
theorem dX10_plan_51 : decode cX10_plan 51 = .ok (.getfield 141, 3) := by decide +kernel
theorem dX10_plan_54 : decode cX10_plan 54 = .ok (.bipush 10, 2) := by decide +kernel
theorem dX10_plan_56 : decode cX10_plan 56 = .ok (.if_icmp .ne 6, 3) := by decide +kernel
theorem dX10_plan_59 : decode cX10_plan 59 = .ok (.bipush (-4), 2) := by decide +kernel
theorem dX10_plan_61 : decode cX10_plan 61 = .ok (.ireturn, 1) := by decide +kernel
theorem dX10_plan_62 : decode cX10_plan 62 = .ok (.aload_n 0, 1) := by decide +kernel
theorem dX10_plan_63 : decode cX10_plan 63 = .ok (.getfield 147, 3) := by decide +kernel
theorem dX10_plan_66 : decode cX10_plan 66 = .ok (.aload_n 0, 1) := by decide +kernel
theorem dX10_plan_67 : decode cX10_plan 67 = .ok (.getfield 141, 3) := by decide +kernel
theorem dX10_plan_70 : decode cX10_plan 70 = .ok (.iload_n 1, 1) := by decide +kernel
theorem dX10_plan_71 : decode cX10_plan 71 = .ok (.iastore, 1) := by decide +kernel
theorem dX10_plan_72 : decode cX10_plan 72 = .ok (.aload_n 0, 1) := by decide +kernel
theorem dX10_plan_73 : decode cX10_plan 73 = .ok (.getfield 150, 3) := by decide +kernel
theorem dX10_plan_76 : decode cX10_plan 76 = .ok (.aload_n 0, 1) := by decide +kernel
theorem dX10_plan_77 : decode cX10_plan 77 = .ok (.getfield 141, 3) := by decide +kernel
theorem dX10_plan_80 : decode cX10_plan 80 = .ok (.iload_n 1, 1) := by decide +kernel
theorem dX10_plan_81 : decode cX10_plan 81 = .ok (.ifCond .le 7, 3) := by decide +kernel
theorem dX10_plan_84 : decode cX10_plan 84 = .ok (.iload_n 2, 1) := by decide +kernel
theorem dX10_plan_85 : decode cX10_plan 85 = .ok (.goto 4, 3) := by decide +kernel
theorem dX10_plan_88 : decode cX10_plan 88 = .ok (.iconst 0, 1) := by decide +kernel
theorem dX10_plan_89 : decode cX10_plan 89 = .ok (.iastore, 1) := by decide +kernel
theorem dX10_plan_90 : decode cX10_plan 90 = .ok (.aload_n 0, 1) := by decide +kernel
theorem dX10_plan_91 : decode cX10_plan 91 = .ok (.dup, 1) := by decide +kernel
theorem dX10_plan_92 : decode cX10_plan 92 = .ok (.getfield 141, 3) := by decide +kernel
theorem dX10_plan_95 : decode cX10_plan 95 = .ok (.iconst 1, 1) := by decide +kernel
theorem dX10_plan_96 : decode cX10_plan 96 = .ok (.iadd, 1) := by decide +kernel
theorem dX10_plan_97 : decode cX10_plan 97 = .ok (.putfield 141, 3) := by decide +kernel
theorem dX10_plan_100 : decode cX10_plan 100 = .ok (.aload_n 0, 1) := by decide +kernel
theorem dX10_plan_101 : decode cX10_plan 101 = .ok (.getfield 141, 3) := by decide +kernel
theorem dX10_plan_104 : decode cX10_plan 104 = .ok (.ireturn, 1) := by decide +kernel
theorem dX10_goPlan_0 : decode cX10_goPlan 0 = .ok (.iload_n 1, 1) := by decide +kernel
theorem dX10_goPlan_1 : decode cX10_goPlan 1 = .ok (.ifCond .ne 15, 3) := by decide +kernel
theorem dX10_goPlan_4 : decode cX10_goPlan 4 = .ok (.aload_n 0, 1) := by decide +kernel
theorem dX10_goPlan_5 : decode cX10_goPlan 5 = .ok (.invokevirtual 361, 3) := by decide +kernel
theorem dX10_goPlan_8 : decode cX10_goPlan 8 = .ok (.aload_n 0, 1) := by decide +kernel
theorem dX10_goPlan_9 : decode cX10_goPlan 9 = .ok (.aload_n 0, 1) := by decide +kernel
theorem dX10_goPlan_10 : decode cX10_goPlan 10 = .ok (.invokevirtual 364, 3) := by decide +kernel
theorem dX10_goPlan_13 : decode cX10_goPlan 13 = .ok (.invokevirtual 355, 3) := by decide +kernel
theorem dX10_goPlan_16 : decode cX10_goPlan 16 = .ok (.iload_n 1, 1) := by decide +kernel
theorem dX10_goPlan_17 : decode cX10_goPlan 17 = .ok (.iconst 1, 1) := by decide +kernel
theorem dX10_goPlan_18 : decode cX10_goPlan 18 = .ok (.if_icmp .ne 9, 3) := by decide +kernel
theorem dX10_goPlan_21 : decode cX10_goPlan 21 = .ok (.aload_n 0, 1) := by decide +kernel
theorem dX10_goPlan_22 : decode cX10_goPlan 22 = .ok (.iload_n 2, 1) := by decide +kernel
theorem dX10_goPlan_23 : decode cX10_goPlan 23 = .ok (.iconst 1, 1) := by decide +kernel
theorem dX10_goPlan_24 : decode cX10_goPlan 24 = .ok (.invokevirtual 267, 3) := by decide +kernel
theorem dX10_goPlan_27 : decode cX10_goPlan 27 = .ok (.iload_n 1, 1) := by decide +kernel
theorem dX10_goPlan_28 : decode cX10_goPlan 28 = .ok (.iconst 2, 1) := by decide +kernel
theorem dX10_goPlan_29 : decode cX10_goPlan 29 = .ok (.if_icmp .ne 10, 3) := by decide +kernel
theorem dX10_goPlan_32 : decode cX10_goPlan 32 = .ok (.aload_n 0, 1) := by decide +kernel
theorem dX10_goPlan_33 : decode cX10_goPlan 33 = .ok (.getfield 22, 3) := by decide +kernel
theorem dX10_goPlan_36 : decode cX10_goPlan 36 = .ok (.iload_n 2, 1) := by decide +kernel
theorem dX10_goPlan_37 : decode cX10_goPlan 37 = .ok (.iconst 0, 1) := by decide +kernel
theorem dX10_goPlan_38 : decode cX10_goPlan 38 = .ok (.iastore, 1) := by decide +kernel
theorem dX10_goPlan_39 : decode cX10_goPlan 39 = .ok (.iload_n 1, 1) := by decide +kernel
theorem dX10_goPlan_40 : decode cX10_goPlan 40 = .ok (.iconst 3, 1) := by decide +kernel
theorem dX10_goPlan_41 : decode cX10_goPlan 41 = .ok (.if_icmp .ne 15, 3) := by decide +kernel
theorem dX10_goPlan_44 : decode cX10_goPlan 44 = .ok (.aload_n 0, 1) := by decide +kernel
theorem dX10_goPlan_45 : decode cX10_goPlan 45 = .ok (.dup, 1) := by decide +kernel
theorem dX10_goPlan_46 : decode cX10_goPlan 46 = .ok (.getfield 16, 3) := by decide +kernel
theorem dX10_goPlan_49 : decode cX10_goPlan 49 = .ok (.iconst 1, 1) := by decide +kernel
theorem dX10_goPlan_50 : decode cX10_goPlan 50 = .ok (.iload_n 2, 1) := by decide +kernel
theorem dX10_goPlan_51 : decode cX10_goPlan 51 = .ok (.ishl, 1) := by decide +kernel
theorem dX10_goPlan_52 : decode cX10_goPlan 52 = .ok (.ixor, 1) := by decide +kernel
theorem dX10_goPlan_53 : decode cX10_goPlan 53 = .ok (.putfield 16, 3) := by decide +kernel
theorem dX10_goPlan_56 : decode cX10_goPlan 56 = .ok (.return_, 1) := by decide +kernel
theorem dX10_ends_0 : decode cX10_ends 0 = .ok (.aload_n 0, 1) := by decide +kernel
theorem dX10_ends_1 : decode cX10_ends 1 = .ok (.iload_n 1, 1) := by decide +kernel
theorem dX10_ends_2 : decode cX10_ends 2 = .ok (.iconst 0, 1) := by decide +kernel
theorem dX10_ends_3 : decode cX10_ends 3 = .ok (.iconst 1, 1) := by decide +kernel
theorem dX10_ends_4 : decode cX10_ends 4 = .ok (.invokevirtual 253, 3) := by decide +kernel
theorem dX10_ends_7 : decode cX10_ends 7 = .ok (.ifCond .ne 5, 3) := by decide +kernel
theorem dX10_ends_10 : decode cX10_ends 10 = .ok (.iconst (-1), 1) := by decide +kernel
theorem dX10_ends_11 : decode cX10_ends 11 = .ok (.ireturn, 1) := by decide +kernel
theorem dX10_ends_12 : decode cX10_ends 12 = .ok (.aload_n 0, 1) := by decide +kernel
theorem dX10_ends_13 : decode cX10_ends 13 = .ok (.invokevirtual 375, 3) := by decide +kernel
theorem dX10_ends_16 : decode cX10_ends 16 = .ok (.iconst 0, 1) := by decide +kernel
theorem dX10_ends_17 : decode cX10_ends 17 = .ok (.istore_n 2, 1) := by decide +kernel
theorem dX10_ends_18 : decode cX10_ends 18 = .ok (.iload_n 2, 1) := by decide +kernel
theorem dX10_ends_19 : decode cX10_ends 19 = .ok (.aload_n 0, 1) := by decide +kernel
theorem dX10_ends_20 : decode cX10_ends 20 = .ok (.getfield 141, 3) := by decide +kernel
theorem dX10_ends_23 : decode cX10_ends 23 = .ok (.if_icmp .ge 25, 3) := by decide +kernel
theorem dX10_ends_26 : decode cX10_ends 26 = .ok (.aload_n 0, 1) := by decide +kernel
theorem dX10_ends_27 : decode cX10_ends 27 = .ok (.aload_n 0, 1) := by decide +kernel
theorem dX10_ends_28 : decode cX10_ends 28 = .ok (.getfield 147, 3) := by decide +kernel
theorem dX10_ends_31 : decode cX10_ends 31 = .ok (.iload_n 2, 1) := by decide +kernel
theorem dX10_ends_32 : decode cX10_ends 32 = .ok (.iaload, 1) := by decide +kernel
theorem dX10_ends_33 : decode cX10_ends 33 = .ok (.aload_n 0, 1) := by decide +kernel
theorem dX10_ends_34 : decode cX10_ends 34 = .ok (.getfield 150, 3) := by decide +kernel
theorem dX10_ends_37 : decode cX10_ends 37 = .ok (.iload_n 2, 1) := by decide +kernel
theorem dX10_ends_38 : decode cX10_ends 38 = .ok (.iaload, 1) := by decide +kernel
theorem dX10_ends_39 : decode cX10_ends 39 = .ok (.invokevirtual 433, 3) := by decide +kernel
theorem dX10_ends_42 : decode cX10_ends 42 = .ok (.iinc 2 1, 3) := by decide +kernel
theorem dX10_ends_45 : decode cX10_ends 45 = .ok (.goto (-27), 3) := by decide +kernel
theorem dX10_ends_48 : decode cX10_ends 48 = .ok (.iload_n 1, 1) := by decide +kernel
theorem dX10_ends_49 : decode cX10_ends 49 = .ok (.ifCond .ne 10, 3) := by decide +kernel
theorem dX10_ends_52 : decode cX10_ends 52 = .ok (.aload_n 0, 1) := by decide +kernel
theorem dX10_ends_53 : decode cX10_ends 53 = .ok (.invokevirtual 387, 3) := by decide +kernel
theorem dX10_ends_56 : decode cX10_ends 56 = .ok (.goto 11, 3) := by decide +kernel
theorem dX10_ends_59 : decode cX10_ends 59 = .ok (.aload_n 0, 1) := by decide +kernel
theorem dX10_ends_60 : decode cX10_ends 60 = .ok (.aload_n 0, 1) := by decide +kernel
theorem dX10_ends_61 : decode cX10_ends 61 = .ok (.invokevirtual 384, 3) := by decide +kernel
theorem dX10_ends_64 : decode cX10_ends 64 = .ok (.invokevirtual 400, 3) := by decide +kernel
theorem dX10_ends_67 : decode cX10_ends 67 = .ok (.istore_n 2, 1) := by decide +kernel
theorem dX10_ends_68 : decode cX10_ends 68 = .ok (.aload_n 0, 1) := by decide +kernel
theorem dX10_ends_69 : decode cX10_ends 69 = .ok (.invokevirtual 378, 3) := by decide +kernel
theorem dX10_ends_72 : decode cX10_ends 72 = .ok (.iload_n 2, 1) := by decide +kernel
theorem dX10_ends_73 : decode cX10_ends 73 = .ok (.ireturn, 1) := by decide +kernel
theorem dX10_book_0 : decode cX10_book 0 = .ok (.iload_n 1, 1) := by decide +kernel
theorem dX10_book_1 : decode cX10_book 1 = .ok (.iconst (-1), 1) := by decide +kernel
theorem dX10_book_2 : decode cX10_book 2 = .ok (.if_icmp .ne 10, 3) := by decide +kernel
theorem dX10_book_5 : decode cX10_book 5 = .ok (.aload_n 0, 1) := by decide +kernel
theorem dX10_book_6 : decode cX10_book 6 = .ok (.iconst 0, 1) := by decide +kernel
theorem dX10_book_7 : decode cX10_book 7 = .ok (.putfield 144, 3) := by decide +kernel
theorem dX10_book_10 : decode cX10_book 10 = .ok (.iconst 0, 1) := by decide +kernel
theorem dX10_book_11 : decode cX10_book 11 = .ok (.ireturn, 1) := by decide +kernel
theorem dX10_book_12 : decode cX10_book 12 = .ok (.aload_n 0, 1) := by decide +kernel
theorem dX10_book_13 : decode cX10_book 13 = .ok (.iload_n 1, 1) := by decide +kernel
theorem dX10_book_14 : decode cX10_book 14 = .ok (.invokevirtual 257, 3) := by decide +kernel
theorem dX10_book_17 : decode cX10_book 17 = .ok (.ifCond .ne 5, 3) := by decide +kernel
theorem dX10_book_20 : decode cX10_book 20 = .ok (.iconst (-1), 1) := by decide +kernel
theorem dX10_book_21 : decode cX10_book 21 = .ok (.ireturn, 1) := by decide +kernel
theorem dX10_book_22 : decode cX10_book 22 = .ok (.aload_n 0, 1) := by decide +kernel
theorem dX10_book_23 : decode cX10_book 23 = .ok (.iload_n 2, 1) := by decide +kernel
theorem dX10_book_24 : decode cX10_book 24 = .ok (.invokevirtual 261, 3) := by decide +kernel
theorem dX10_book_27 : decode cX10_book 27 = .ok (.ifCond .ne 6, 3) := by decide +kernel
theorem dX10_book_30 : decode cX10_book 30 = .ok (.bipush (-2), 2) := by decide +kernel
theorem dX10_book_32 : decode cX10_book 32 = .ok (.ireturn, 1) := by decide +kernel
theorem dX10_book_33 : decode cX10_book 33 = .ok (.aload_n 0, 1) := by decide +kernel
theorem dX10_book_34 : decode cX10_book 34 = .ok (.getfield 144, 3) := by decide +kernel
theorem dX10_book_37 : decode cX10_book 37 = .ok (.bipush 8, 2) := by decide +kernel
theorem dX10_book_39 : decode cX10_book 39 = .ok (.if_icmp .ne 6, 3) := by decide +kernel
theorem dX10_book_42 : decode cX10_book 42 = .ok (.bipush (-4), 2) := by decide +kernel
theorem dX10_book_44 : decode cX10_book 44 = .ok (.ireturn, 1) := by decide +kernel
theorem dX10_book_45 : decode cX10_book 45 = .ok (.aload_n 0, 1) := by decide +kernel
theorem dX10_book_46 : decode cX10_book 46 = .ok (.getfield 153, 3) := by decide +kernel
theorem dX10_book_49 : decode cX10_book 49 = .ok (.aload_n 0, 1) := by decide +kernel
theorem dX10_book_50 : decode cX10_book 50 = .ok (.getfield 144, 3) := by decide +kernel
theorem dX10_book_53 : decode cX10_book 53 = .ok (.iload_n 1, 1) := by decide +kernel
theorem dX10_book_54 : decode cX10_book 54 = .ok (.iastore, 1) := by decide +kernel
theorem dX10_book_55 : decode cX10_book 55 = .ok (.aload_n 0, 1) := by decide +kernel
theorem dX10_book_56 : decode cX10_book 56 = .ok (.getfield 156, 3) := by decide +kernel
theorem dX10_book_59 : decode cX10_book 59 = .ok (.aload_n 0, 1) := by decide +kernel
theorem dX10_book_60 : decode cX10_book 60 = .ok (.getfield 144, 3) := by decide +kernel
theorem dX10_book_63 : decode cX10_book 63 = .ok (.iload_n 2, 1) := by decide +kernel
theorem dX10_book_64 : decode cX10_book 64 = .ok (.iastore, 1) := by decide +kernel
theorem dX10_book_65 : decode cX10_book 65 = .ok (.aload_n 0, 1) := by decide +kernel
theorem dX10_book_66 : decode cX10_book 66 = .ok (.dup, 1) := by decide +kernel
theorem dX10_book_67 : decode cX10_book 67 = .ok (.getfield 144, 3) := by decide +kernel
theorem dX10_book_70 : decode cX10_book 70 = .ok (.iconst 1, 1) := by decide +kernel
theorem dX10_book_71 : decode cX10_book 71 = .ok (.iadd, 1) := by decide +kernel
theorem dX10_book_72 : decode cX10_book 72 = .ok (.putfield 144, 3) := by decide +kernel
theorem dX10_book_75 : decode cX10_book 75 = .ok (.aload_n 0, 1) := by decide +kernel
theorem dX10_book_76 : decode cX10_book 76 = .ok (.getfield 144, 3) := by decide +kernel
theorem dX10_book_79 : decode cX10_book 79 = .ok (.ireturn, 1) := by decide +kernel
theorem dX10_looked_0 : decode cX10_looked 0 = .ok (.iconst 0, 1) := by decide +kernel
theorem dX10_looked_1 : decode cX10_looked 1 = .ok (.istore_n 1, 1) := by decide +kernel
theorem dX10_looked_2 : decode cX10_looked 2 = .ok (.iload_n 1, 1) := by decide +kernel
theorem dX10_looked_3 : decode cX10_looked 3 = .ok (.aload_n 0, 1) := by decide +kernel
theorem dX10_looked_4 : decode cX10_looked 4 = .ok (.getfield 144, 3) := by decide +kernel
theorem dX10_looked_7 : decode cX10_looked 7 = .ok (.if_icmp .ge 31, 3) := by decide +kernel
theorem dX10_looked_10 : decode cX10_looked 10 = .ok (.aload_n 0, 1) := by decide +kernel
theorem dX10_looked_11 : decode cX10_looked 11 = .ok (.getfield 22, 3) := by decide +kernel
theorem dX10_looked_14 : decode cX10_looked 14 = .ok (.aload_n 0, 1) := by decide +kernel
theorem dX10_looked_15 : decode cX10_looked 15 = .ok (.getfield 153, 3) := by decide +kernel
theorem dX10_looked_18 : decode cX10_looked 18 = .ok (.iload_n 1, 1) := by decide +kernel
theorem dX10_looked_19 : decode cX10_looked 19 = .ok (.iaload, 1) := by decide +kernel
theorem dX10_looked_20 : decode cX10_looked 20 = .ok (.iaload, 1) := by decide +kernel
theorem dX10_looked_21 : decode cX10_looked 21 = .ok (.aload_n 0, 1) := by decide +kernel
theorem dX10_looked_22 : decode cX10_looked 22 = .ok (.getfield 156, 3) := by decide +kernel
theorem dX10_looked_25 : decode cX10_looked 25 = .ok (.iload_n 1, 1) := by decide +kernel
theorem dX10_looked_26 : decode cX10_looked 26 = .ok (.iaload, 1) := by decide +kernel
theorem dX10_looked_27 : decode cX10_looked 27 = .ok (.if_icmp .eq 5, 3) := by decide +kernel
theorem dX10_looked_30 : decode cX10_looked 30 = .ok (.iload_n 1, 1) := by decide +kernel
theorem dX10_looked_31 : decode cX10_looked 31 = .ok (.ireturn, 1) := by decide +kernel
theorem dX10_looked_32 : decode cX10_looked 32 = .ok (.iinc 1 1, 3) := by decide +kernel
theorem dX10_looked_35 : decode cX10_looked 35 = .ok (.goto (-33), 3) := by decide +kernel
theorem dX10_looked_38 : decode cX10_looked 38 = .ok (.bipush (-5), 2) := by decide +kernel
theorem dX10_looked_40 : decode cX10_looked 40 = .ok (.ireturn, 1) := by decide +kernel
theorem dX10_judge_0 : decode cX10_judge 0 = .ok (.aload_n 0, 1) := by decide +kernel
theorem dX10_judge_1 : decode cX10_judge 1 = .ok (.iload_n 1, 1) := by decide +kernel
theorem dX10_judge_2 : decode cX10_judge 2 = .ok (.invokevirtual 436, 3) := by decide +kernel
theorem dX10_judge_5 : decode cX10_judge 5 = .ok (.ifCond .ne 5, 3) := by decide +kernel
theorem dX10_judge_8 : decode cX10_judge 8 = .ok (.iconst (-1), 1) := by decide +kernel
theorem dX10_judge_9 : decode cX10_judge 9 = .ok (.ireturn, 1) := by decide +kernel
theorem dX10_judge_10 : decode cX10_judge 10 = .ok (.aload_n 0, 1) := by decide +kernel
theorem dX10_judge_11 : decode cX10_judge 11 = .ok (.getfield 232, 3) := by decide +kernel
theorem dX10_judge_14 : decode cX10_judge 14 = .ok (.iload_n 1, 1) := by decide +kernel
theorem dX10_judge_15 : decode cX10_judge 15 = .ok (.iaload, 1) := by decide +kernel
theorem dX10_judge_16 : decode cX10_judge 16 = .ok (.ifCond .lt 16, 3) := by decide +kernel
theorem dX10_judge_19 : decode cX10_judge 19 = .ok (.aload_n 0, 1) := by decide +kernel
theorem dX10_judge_20 : decode cX10_judge 20 = .ok (.getfield 232, 3) := by decide +kernel
theorem dX10_judge_23 : decode cX10_judge 23 = .ok (.iload_n 1, 1) := by decide +kernel
theorem dX10_judge_24 : decode cX10_judge 24 = .ok (.iaload, 1) := by decide +kernel
theorem dX10_judge_25 : decode cX10_judge 25 = .ok (.iconst 1, 1) := by decide +kernel
theorem dX10_judge_26 : decode cX10_judge 26 = .ok (.if_icmp .eq 6, 3) := by decide +kernel
theorem dX10_judge_29 : decode cX10_judge 29 = .ok (.bipush (-12), 2) := by decide +kernel
theorem dX10_judge_31 : decode cX10_judge 31 = .ok (.ireturn, 1) := by decide +kernel
theorem dX10_judge_32 : decode cX10_judge 32 = .ok (.iconst 0, 1) := by decide +kernel
theorem dX10_judge_33 : decode cX10_judge 33 = .ok (.istore_n 3, 1) := by decide +kernel
theorem dX10_judge_34 : decode cX10_judge 34 = .ok (.iload_n 3, 1) := by decide +kernel
theorem dX10_judge_35 : decode cX10_judge 35 = .ok (.bipush 16, 2) := by decide +kernel
theorem dX10_judge_37 : decode cX10_judge 37 = .ok (.if_icmp .ge 67, 3) := by decide +kernel
theorem dX10_judge_40 : decode cX10_judge 40 = .ok (.aload_n 0, 1) := by decide +kernel
theorem dX10_judge_41 : decode cX10_judge 41 = .ok (.getfield 232, 3) := by decide +kernel
theorem dX10_judge_44 : decode cX10_judge 44 = .ok (.iload_n 1, 1) := by decide +kernel
theorem dX10_judge_45 : decode cX10_judge 45 = .ok (.iaload, 1) := by decide +kernel
theorem dX10_judge_46 : decode cX10_judge 46 = .ok (.ifCond .lt 21, 3) := by decide +kernel
theorem dX10_judge_49 : decode cX10_judge 49 = .ok (.iload_n 2, 1) := by decide +kernel
theorem dX10_judge_50 : decode cX10_judge 50 = .ok (.ifCond .lt 17, 3) := by decide +kernel
theorem dX10_judge_53 : decode cX10_judge 53 = .ok (.iload_n 2, 1) := by decide +kernel
theorem dX10_judge_54 : decode cX10_judge 54 = .ok (.aload_n 0, 1) := by decide +kernel
theorem dX10_judge_55 : decode cX10_judge 55 = .ok (.getfield 235, 3) := by decide +kernel
theorem dX10_judge_58 : decode cX10_judge 58 = .ok (.iload_n 1, 1) := by decide +kernel
theorem dX10_judge_59 : decode cX10_judge 59 = .ok (.iaload, 1) := by decide +kernel
theorem dX10_judge_60 : decode cX10_judge 60 = .ok (.iload_n 3, 1) := by decide +kernel
theorem dX10_judge_61 : decode cX10_judge 61 = .ok (.isub, 1) := by decide +kernel
theorem dX10_judge_62 : decode cX10_judge 62 = .ok (.iconst 1, 1) := by decide +kernel
theorem dX10_judge_63 : decode cX10_judge 63 = .ok (.isub, 1) := by decide +kernel
theorem dX10_judge_64 : decode cX10_judge 64 = .ok (.if_icmp .le 8, 3) := by decide +kernel
theorem dX10_judge_67 : decode cX10_judge 67 = .ok (.bipush 100, 2) := by decide +kernel
theorem dX10_judge_69 : decode cX10_judge 69 = .ok (.iload_n 3, 1) := by decide +kernel
theorem dX10_judge_70 : decode cX10_judge 70 = .ok (.iadd, 1) := by decide +kernel
theorem dX10_judge_71 : decode cX10_judge 71 = .ok (.ireturn, 1) := by decide +kernel
theorem dX10_judge_72 : decode cX10_judge 72 = .ok (.aload_n 0, 1) := by decide +kernel
theorem dX10_judge_73 : decode cX10_judge 73 = .ok (.getfield 238, 3) := by decide +kernel
theorem dX10_judge_76 : decode cX10_judge 76 = .ok (.bipush 60, 2) := by decide +kernel
theorem dX10_judge_78 : decode cX10_judge 78 = .ok (.iload_n 1, 1) := by decide +kernel
theorem dX10_judge_79 : decode cX10_judge 79 = .ok (.imul, 1) := by decide +kernel
theorem dX10_judge_80 : decode cX10_judge 80 = .ok (.iload_n 2, 1) := by decide +kernel
theorem dX10_judge_81 : decode cX10_judge 81 = .ok (.iadd, 1) := by decide +kernel
theorem dX10_judge_82 : decode cX10_judge 82 = .ok (.iload_n 3, 1) := by decide +kernel
theorem dX10_judge_83 : decode cX10_judge 83 = .ok (.iadd, 1) := by decide +kernel
theorem dX10_judge_84 : decode cX10_judge 84 = .ok (.laload, 1) := by decide +kernel
theorem dX10_judge_85 : decode cX10_judge 85 = .ok (.aload_n 0, 1) := by decide +kernel
theorem dX10_judge_86 : decode cX10_judge 86 = .ok (.getfield 22, 3) := by decide +kernel
theorem dX10_judge_89 : decode cX10_judge 89 = .ok (.iload_n 3, 1) := by decide +kernel
theorem dX10_judge_90 : decode cX10_judge 90 = .ok (.iaload, 1) := by decide +kernel
theorem dX10_judge_91 : decode cX10_judge 91 = .ok (.i2l, 1) := by decide +kernel
theorem dX10_judge_92 : decode cX10_judge 92 = .ok (.lcmp, 1) := by decide +kernel
theorem dX10_judge_93 : decode cX10_judge 93 = .ok (.ifCond .eq 5, 3) := by decide +kernel
theorem dX10_judge_96 : decode cX10_judge 96 = .ok (.iload_n 3, 1) := by decide +kernel
theorem dX10_judge_97 : decode cX10_judge 97 = .ok (.ireturn, 1) := by decide +kernel
theorem dX10_judge_98 : decode cX10_judge 98 = .ok (.iinc 3 1, 3) := by decide +kernel
theorem dX10_judge_101 : decode cX10_judge 101 = .ok (.goto (-67), 3) := by decide +kernel
theorem dX10_judge_104 : decode cX10_judge 104 = .ok (.bipush (-5), 2) := by decide +kernel
theorem dX10_judge_106 : decode cX10_judge 106 = .ok (.ireturn, 1) := by decide +kernel
theorem dX10_image_0 : decode cX10_image 0 = .ok (.aload_n 0, 1) := by decide +kernel
theorem dX10_image_1 : decode cX10_image 1 = .ok (.iconst 1, 1) := by decide +kernel
theorem dX10_image_2 : decode cX10_image 2 = .ok (.putfield 159, 3) := by decide +kernel
theorem dX10_image_5 : decode cX10_image 5 = .ok (.aload_n 0, 1) := by decide +kernel
theorem dX10_image_6 : decode cX10_image 6 = .ok (.aload_n 0, 1) := by decide +kernel
theorem dX10_image_7 : decode cX10_image 7 = .ok (.getfield 44, 3) := by decide +kernel
theorem dX10_image_10 : decode cX10_image 10 = .ok (.putfield 163, 3) := by decide +kernel
theorem dX10_image_13 : decode cX10_image 13 = .ok (.aload_n 0, 1) := by decide +kernel
theorem dX10_image_14 : decode cX10_image 14 = .ok (.aload_n 0, 1) := by decide +kernel
theorem dX10_image_15 : decode cX10_image 15 = .ok (.getfield 7, 3) := by decide +kernel
theorem dX10_image_18 : decode cX10_image 18 = .ok (.putfield 166, 3) := by decide +kernel
theorem dX10_image_21 : decode cX10_image 21 = .ok (.aload_n 0, 1) := by decide +kernel
theorem dX10_image_22 : decode cX10_image 22 = .ok (.aload_n 0, 1) := by decide +kernel
theorem dX10_image_23 : decode cX10_image 23 = .ok (.getfield 13, 3) := by decide +kernel
theorem dX10_image_26 : decode cX10_image 26 = .ok (.putfield 169, 3) := by decide +kernel
theorem dX10_image_29 : decode cX10_image 29 = .ok (.aload_n 0, 1) := by decide +kernel
theorem dX10_image_30 : decode cX10_image 30 = .ok (.aload_n 0, 1) := by decide +kernel
theorem dX10_image_31 : decode cX10_image 31 = .ok (.getfield 16, 3) := by decide +kernel
theorem dX10_image_34 : decode cX10_image 34 = .ok (.putfield 172, 3) := by decide +kernel
theorem dX10_image_37 : decode cX10_image 37 = .ok (.aload_n 0, 1) := by decide +kernel
theorem dX10_image_38 : decode cX10_image 38 = .ok (.aload_n 0, 1) := by decide +kernel
theorem dX10_image_39 : decode cX10_image 39 = .ok (.getfield 19, 3) := by decide +kernel
theorem dX10_image_42 : decode cX10_image 42 = .ok (.putfield 175, 3) := by decide +kernel
theorem dX10_image_45 : decode cX10_image 45 = .ok (.aload_n 0, 1) := by decide +kernel
theorem dX10_image_46 : decode cX10_image 46 = .ok (.aload_n 0, 1) := by decide +kernel
theorem dX10_image_47 : decode cX10_image 47 = .ok (.getfield 129, 3) := by decide +kernel
theorem dX10_image_50 : decode cX10_image 50 = .ok (.putfield 178, 3) := by decide +kernel
theorem dX10_image_53 : decode cX10_image 53 = .ok (.aload_n 0, 1) := by decide +kernel
theorem dX10_image_54 : decode cX10_image 54 = .ok (.aload_n 0, 1) := by decide +kernel
theorem dX10_image_55 : decode cX10_image 55 = .ok (.getfield 141, 3) := by decide +kernel
theorem dX10_image_58 : decode cX10_image 58 = .ok (.putfield 181, 3) := by decide +kernel
theorem dX10_image_61 : decode cX10_image 61 = .ok (.aload_n 0, 1) := by decide +kernel
theorem dX10_image_62 : decode cX10_image 62 = .ok (.aload_n 0, 1) := by decide +kernel
theorem dX10_image_63 : decode cX10_image 63 = .ok (.getfield 144, 3) := by decide +kernel
theorem dX10_image_66 : decode cX10_image 66 = .ok (.putfield 184, 3) := by decide +kernel
theorem dX10_image_69 : decode cX10_image 69 = .ok (.iconst 0, 1) := by decide +kernel
theorem dX10_image_70 : decode cX10_image 70 = .ok (.istore_n 1, 1) := by decide +kernel
theorem dX10_image_71 : decode cX10_image 71 = .ok (.iload_n 1, 1) := by decide +kernel
theorem dX10_image_72 : decode cX10_image 72 = .ok (.bipush 16, 2) := by decide +kernel
theorem dX10_image_74 : decode cX10_image 74 = .ok (.if_icmp .ge 21, 3) := by decide +kernel
theorem dX10_image_77 : decode cX10_image 77 = .ok (.aload_n 0, 1) := by decide +kernel
theorem dX10_image_78 : decode cX10_image 78 = .ok (.getfield 187, 3) := by decide +kernel
theorem dX10_image_81 : decode cX10_image 81 = .ok (.iload_n 1, 1) := by decide +kernel
theorem dX10_image_82 : decode cX10_image 82 = .ok (.aload_n 0, 1) := by decide +kernel
theorem dX10_image_83 : decode cX10_image 83 = .ok (.getfield 22, 3) := by decide +kernel
theorem dX10_image_86 : decode cX10_image 86 = .ok (.iload_n 1, 1) := by decide +kernel
theorem dX10_image_87 : decode cX10_image 87 = .ok (.iaload, 1) := by decide +kernel
theorem dX10_image_88 : decode cX10_image 88 = .ok (.iastore, 1) := by decide +kernel
theorem dX10_image_89 : decode cX10_image 89 = .ok (.iinc 1 1, 3) := by decide +kernel
theorem dX10_image_92 : decode cX10_image 92 = .ok (.goto (-21), 3) := by decide +kernel
theorem dX10_image_95 : decode cX10_image 95 = .ok (.iconst 0, 1) := by decide +kernel
theorem dX10_image_96 : decode cX10_image 96 = .ok (.istore_n 1, 1) := by decide +kernel
theorem dX10_image_97 : decode cX10_image 97 = .ok (.iload_n 1, 1) := by decide +kernel
theorem dX10_image_98 : decode cX10_image 98 = .ok (.bipush 6, 2) := by decide +kernel
theorem dX10_image_100 : decode cX10_image 100 = .ok (.if_icmp .ge 57, 3) := by decide +kernel
theorem dX10_image_103 : decode cX10_image 103 = .ok (.aload_n 0, 1) := by decide +kernel
theorem dX10_image_104 : decode cX10_image 104 = .ok (.getfield 190, 3) := by decide +kernel
theorem dX10_image_107 : decode cX10_image 107 = .ok (.iload_n 1, 1) := by decide +kernel
theorem dX10_image_108 : decode cX10_image 108 = .ok (.aload_n 0, 1) := by decide +kernel
theorem dX10_image_109 : decode cX10_image 109 = .ok (.getfield 26, 3) := by decide +kernel
theorem dX10_image_112 : decode cX10_image 112 = .ok (.iload_n 1, 1) := by decide +kernel
theorem dX10_image_113 : decode cX10_image 113 = .ok (.iaload, 1) := by decide +kernel
theorem dX10_image_114 : decode cX10_image 114 = .ok (.iastore, 1) := by decide +kernel
theorem dX10_image_115 : decode cX10_image 115 = .ok (.aload_n 0, 1) := by decide +kernel
theorem dX10_image_116 : decode cX10_image 116 = .ok (.getfield 193, 3) := by decide +kernel
theorem dX10_image_119 : decode cX10_image 119 = .ok (.iload_n 1, 1) := by decide +kernel
theorem dX10_image_120 : decode cX10_image 120 = .ok (.aload_n 0, 1) := by decide +kernel
theorem dX10_image_121 : decode cX10_image 121 = .ok (.getfield 29, 3) := by decide +kernel
theorem dX10_image_124 : decode cX10_image 124 = .ok (.iload_n 1, 1) := by decide +kernel
theorem dX10_image_125 : decode cX10_image 125 = .ok (.iaload, 1) := by decide +kernel
theorem dX10_image_126 : decode cX10_image 126 = .ok (.iastore, 1) := by decide +kernel
theorem dX10_image_127 : decode cX10_image 127 = .ok (.aload_n 0, 1) := by decide +kernel
theorem dX10_image_128 : decode cX10_image 128 = .ok (.getfield 196, 3) := by decide +kernel
theorem dX10_image_131 : decode cX10_image 131 = .ok (.iload_n 1, 1) := by decide +kernel
theorem dX10_image_132 : decode cX10_image 132 = .ok (.aload_n 0, 1) := by decide +kernel
theorem dX10_image_133 : decode cX10_image 133 = .ok (.getfield 32, 3) := by decide +kernel
theorem dX10_image_136 : decode cX10_image 136 = .ok (.iload_n 1, 1) := by decide +kernel
theorem dX10_image_137 : decode cX10_image 137 = .ok (.iaload, 1) := by decide +kernel
theorem dX10_image_138 : decode cX10_image 138 = .ok (.iastore, 1) := by decide +kernel
theorem dX10_image_139 : decode cX10_image 139 = .ok (.aload_n 0, 1) := by decide +kernel
theorem dX10_image_140 : decode cX10_image 140 = .ok (.getfield 199, 3) := by decide +kernel
theorem dX10_image_143 : decode cX10_image 143 = .ok (.iload_n 1, 1) := by decide +kernel
theorem dX10_image_144 : decode cX10_image 144 = .ok (.aload_n 0, 1) := by decide +kernel
theorem dX10_image_145 : decode cX10_image 145 = .ok (.getfield 35, 3) := by decide +kernel
theorem dX10_image_148 : decode cX10_image 148 = .ok (.iload_n 1, 1) := by decide +kernel
theorem dX10_image_149 : decode cX10_image 149 = .ok (.iaload, 1) := by decide +kernel
theorem dX10_image_150 : decode cX10_image 150 = .ok (.iastore, 1) := by decide +kernel
theorem dX10_image_151 : decode cX10_image 151 = .ok (.iinc 1 1, 3) := by decide +kernel
theorem dX10_image_154 : decode cX10_image 154 = .ok (.goto (-57), 3) := by decide +kernel
theorem dX10_image_157 : decode cX10_image 157 = .ok (.iconst 0, 1) := by decide +kernel
theorem dX10_image_158 : decode cX10_image 158 = .ok (.istore_n 1, 1) := by decide +kernel
theorem dX10_image_159 : decode cX10_image 159 = .ok (.iload_n 1, 1) := by decide +kernel
theorem dX10_image_160 : decode cX10_image 160 = .ok (.bipush 24, 2) := by decide +kernel
theorem dX10_image_162 : decode cX10_image 162 = .ok (.if_icmp .ge 21, 3) := by decide +kernel
theorem dX10_image_165 : decode cX10_image 165 = .ok (.aload_n 0, 1) := by decide +kernel
theorem dX10_image_166 : decode cX10_image 166 = .ok (.getfield 202, 3) := by decide +kernel
theorem dX10_image_169 : decode cX10_image 169 = .ok (.iload_n 1, 1) := by decide +kernel
theorem dX10_image_170 : decode cX10_image 170 = .ok (.aload_n 0, 1) := by decide +kernel
theorem dX10_image_171 : decode cX10_image 171 = .ok (.getfield 38, 3) := by decide +kernel
theorem dX10_image_174 : decode cX10_image 174 = .ok (.iload_n 1, 1) := by decide +kernel
theorem dX10_image_175 : decode cX10_image 175 = .ok (.iaload, 1) := by decide +kernel
theorem dX10_image_176 : decode cX10_image 176 = .ok (.iastore, 1) := by decide +kernel
theorem dX10_image_177 : decode cX10_image 177 = .ok (.iinc 1 1, 3) := by decide +kernel
theorem dX10_image_180 : decode cX10_image 180 = .ok (.goto (-21), 3) := by decide +kernel
theorem dX10_image_183 : decode cX10_image 183 = .ok (.iconst 0, 1) := by decide +kernel
theorem dX10_image_184 : decode cX10_image 184 = .ok (.istore_n 1, 1) := by decide +kernel
theorem dX10_image_185 : decode cX10_image 185 = .ok (.iload_n 1, 1) := by decide +kernel
theorem dX10_image_186 : decode cX10_image 186 = .ok (.iconst 5, 1) := by decide +kernel
theorem dX10_image_187 : decode cX10_image 187 = .ok (.if_icmp .ge 45, 3) := by decide +kernel
theorem dX10_image_190 : decode cX10_image 190 = .ok (.aload_n 0, 1) := by decide +kernel
theorem dX10_image_191 : decode cX10_image 191 = .ok (.getfield 205, 3) := by decide +kernel
theorem dX10_image_194 : decode cX10_image 194 = .ok (.iload_n 1, 1) := by decide +kernel
theorem dX10_image_195 : decode cX10_image 195 = .ok (.aload_n 0, 1) := by decide +kernel
theorem dX10_image_196 : decode cX10_image 196 = .ok (.getfield 132, 3) := by decide +kernel
theorem dX10_image_199 : decode cX10_image 199 = .ok (.iload_n 1, 1) := by decide +kernel
theorem dX10_image_200 : decode cX10_image 200 = .ok (.iaload, 1) := by decide +kernel
theorem dX10_image_201 : decode cX10_image 201 = .ok (.iastore, 1) := by decide +kernel
theorem dX10_image_202 : decode cX10_image 202 = .ok (.aload_n 0, 1) := by decide +kernel
theorem dX10_image_203 : decode cX10_image 203 = .ok (.getfield 208, 3) := by decide +kernel
theorem dX10_image_206 : decode cX10_image 206 = .ok (.iload_n 1, 1) := by decide +kernel
theorem dX10_image_207 : decode cX10_image 207 = .ok (.aload_n 0, 1) := by decide +kernel
theorem dX10_image_208 : decode cX10_image 208 = .ok (.getfield 135, 3) := by decide +kernel
theorem dX10_image_211 : decode cX10_image 211 = .ok (.iload_n 1, 1) := by decide +kernel
theorem dX10_image_212 : decode cX10_image 212 = .ok (.iaload, 1) := by decide +kernel
theorem dX10_image_213 : decode cX10_image 213 = .ok (.iastore, 1) := by decide +kernel
theorem dX10_image_214 : decode cX10_image 214 = .ok (.aload_n 0, 1) := by decide +kernel
theorem dX10_image_215 : decode cX10_image 215 = .ok (.getfield 211, 3) := by decide +kernel
theorem dX10_image_218 : decode cX10_image 218 = .ok (.iload_n 1, 1) := by decide +kernel
theorem dX10_image_219 : decode cX10_image 219 = .ok (.aload_n 0, 1) := by decide +kernel
theorem dX10_image_220 : decode cX10_image 220 = .ok (.getfield 138, 3) := by decide +kernel
theorem dX10_image_223 : decode cX10_image 223 = .ok (.iload_n 1, 1) := by decide +kernel
theorem dX10_image_224 : decode cX10_image 224 = .ok (.iaload, 1) := by decide +kernel
theorem dX10_image_225 : decode cX10_image 225 = .ok (.iastore, 1) := by decide +kernel
theorem dX10_image_226 : decode cX10_image 226 = .ok (.iinc 1 1, 3) := by decide +kernel
theorem dX10_image_229 : decode cX10_image 229 = .ok (.goto (-44), 3) := by decide +kernel
theorem dX10_image_232 : decode cX10_image 232 = .ok (.iconst 0, 1) := by decide +kernel
theorem dX10_image_233 : decode cX10_image 233 = .ok (.istore_n 1, 1) := by decide +kernel
theorem dX10_image_234 : decode cX10_image 234 = .ok (.iload_n 1, 1) := by decide +kernel
theorem dX10_image_235 : decode cX10_image 235 = .ok (.bipush 10, 2) := by decide +kernel
theorem dX10_image_237 : decode cX10_image 237 = .ok (.if_icmp .ge 33, 3) := by decide +kernel
theorem dX10_image_240 : decode cX10_image 240 = .ok (.aload_n 0, 1) := by decide +kernel
theorem dX10_image_241 : decode cX10_image 241 = .ok (.getfield 214, 3) := by decide +kernel
theorem dX10_image_244 : decode cX10_image 244 = .ok (.iload_n 1, 1) := by decide +kernel
theorem dX10_image_245 : decode cX10_image 245 = .ok (.aload_n 0, 1) := by decide +kernel
theorem dX10_image_246 : decode cX10_image 246 = .ok (.getfield 147, 3) := by decide +kernel
theorem dX10_image_249 : decode cX10_image 249 = .ok (.iload_n 1, 1) := by decide +kernel
theorem dX10_image_250 : decode cX10_image 250 = .ok (.iaload, 1) := by decide +kernel
theorem dX10_image_251 : decode cX10_image 251 = .ok (.iastore, 1) := by decide +kernel
theorem dX10_image_252 : decode cX10_image 252 = .ok (.aload_n 0, 1) := by decide +kernel
theorem dX10_image_253 : decode cX10_image 253 = .ok (.getfield 217, 3) := by decide +kernel
theorem dX10_image_256 : decode cX10_image 256 = .ok (.iload_n 1, 1) := by decide +kernel
theorem dX10_image_257 : decode cX10_image 257 = .ok (.aload_n 0, 1) := by decide +kernel
theorem dX10_image_258 : decode cX10_image 258 = .ok (.getfield 150, 3) := by decide +kernel
theorem dX10_image_261 : decode cX10_image 261 = .ok (.iload_n 1, 1) := by decide +kernel
theorem dX10_image_262 : decode cX10_image 262 = .ok (.iaload, 1) := by decide +kernel
theorem dX10_image_263 : decode cX10_image 263 = .ok (.iastore, 1) := by decide +kernel
theorem dX10_image_264 : decode cX10_image 264 = .ok (.iinc 1 1, 3) := by decide +kernel
theorem dX10_image_267 : decode cX10_image 267 = .ok (.goto (-33), 3) := by decide +kernel
theorem dX10_image_270 : decode cX10_image 270 = .ok (.iconst 0, 1) := by decide +kernel
theorem dX10_image_271 : decode cX10_image 271 = .ok (.istore_n 1, 1) := by decide +kernel
theorem dX10_image_272 : decode cX10_image 272 = .ok (.iload_n 1, 1) := by decide +kernel
theorem dX10_image_273 : decode cX10_image 273 = .ok (.bipush 8, 2) := by decide +kernel
theorem dX10_image_275 : decode cX10_image 275 = .ok (.if_icmp .ge 33, 3) := by decide +kernel
theorem dX10_image_278 : decode cX10_image 278 = .ok (.aload_n 0, 1) := by decide +kernel
theorem dX10_image_279 : decode cX10_image 279 = .ok (.getfield 220, 3) := by decide +kernel
theorem dX10_image_282 : decode cX10_image 282 = .ok (.iload_n 1, 1) := by decide +kernel
theorem dX10_image_283 : decode cX10_image 283 = .ok (.aload_n 0, 1) := by decide +kernel
theorem dX10_image_284 : decode cX10_image 284 = .ok (.getfield 153, 3) := by decide +kernel
theorem dX10_image_287 : decode cX10_image 287 = .ok (.iload_n 1, 1) := by decide +kernel
theorem dX10_image_288 : decode cX10_image 288 = .ok (.iaload, 1) := by decide +kernel
theorem dX10_image_289 : decode cX10_image 289 = .ok (.iastore, 1) := by decide +kernel
theorem dX10_image_290 : decode cX10_image 290 = .ok (.aload_n 0, 1) := by decide +kernel
theorem dX10_image_291 : decode cX10_image 291 = .ok (.getfield 223, 3) := by decide +kernel
theorem dX10_image_294 : decode cX10_image 294 = .ok (.iload_n 1, 1) := by decide +kernel
theorem dX10_image_295 : decode cX10_image 295 = .ok (.aload_n 0, 1) := by decide +kernel
theorem dX10_image_296 : decode cX10_image 296 = .ok (.getfield 156, 3) := by decide +kernel
theorem dX10_image_299 : decode cX10_image 299 = .ok (.iload_n 1, 1) := by decide +kernel
theorem dX10_image_300 : decode cX10_image 300 = .ok (.iaload, 1) := by decide +kernel
theorem dX10_image_301 : decode cX10_image 301 = .ok (.iastore, 1) := by decide +kernel
theorem dX10_image_302 : decode cX10_image 302 = .ok (.iinc 1 1, 3) := by decide +kernel
theorem dX10_image_305 : decode cX10_image 305 = .ok (.goto (-33), 3) := by decide +kernel
theorem dX10_image_308 : decode cX10_image 308 = .ok (.aload_n 0, 1) := by decide +kernel
theorem dX10_image_309 : decode cX10_image 309 = .ok (.getfield 7, 3) := by decide +kernel
theorem dX10_image_312 : decode cX10_image 312 = .ok (.ireturn, 1) := by decide +kernel
theorem dX10_undo_0 : decode cX10_undo 0 = .ok (.aload_n 0, 1) := by decide +kernel
theorem dX10_undo_1 : decode cX10_undo 1 = .ok (.getfield 159, 3) := by decide +kernel
theorem dX10_undo_4 : decode cX10_undo 4 = .ok (.ifCond .ne 6, 3) := by decide +kernel
theorem dX10_undo_7 : decode cX10_undo 7 = .ok (.bipush (-3), 2) := by decide +kernel
theorem dX10_undo_9 : decode cX10_undo 9 = .ok (.ireturn, 1) := by decide +kernel
theorem dX10_undo_10 : decode cX10_undo 10 = .ok (.aload_n 0, 1) := by decide +kernel
theorem dX10_undo_11 : decode cX10_undo 11 = .ok (.aload_n 0, 1) := by decide +kernel
theorem dX10_undo_12 : decode cX10_undo 12 = .ok (.getfield 163, 3) := by decide +kernel
theorem dX10_undo_15 : decode cX10_undo 15 = .ok (.putfield 44, 3) := by decide +kernel
theorem dX10_undo_18 : decode cX10_undo 18 = .ok (.aload_n 0, 1) := by decide +kernel
theorem dX10_undo_19 : decode cX10_undo 19 = .ok (.aload_n 0, 1) := by decide +kernel
theorem dX10_undo_20 : decode cX10_undo 20 = .ok (.getfield 166, 3) := by decide +kernel
theorem dX10_undo_23 : decode cX10_undo 23 = .ok (.putfield 7, 3) := by decide +kernel
theorem dX10_undo_26 : decode cX10_undo 26 = .ok (.aload_n 0, 1) := by decide +kernel
theorem dX10_undo_27 : decode cX10_undo 27 = .ok (.aload_n 0, 1) := by decide +kernel
theorem dX10_undo_28 : decode cX10_undo 28 = .ok (.getfield 169, 3) := by decide +kernel
theorem dX10_undo_31 : decode cX10_undo 31 = .ok (.putfield 13, 3) := by decide +kernel
theorem dX10_undo_34 : decode cX10_undo 34 = .ok (.aload_n 0, 1) := by decide +kernel
theorem dX10_undo_35 : decode cX10_undo 35 = .ok (.aload_n 0, 1) := by decide +kernel
theorem dX10_undo_36 : decode cX10_undo 36 = .ok (.getfield 172, 3) := by decide +kernel
theorem dX10_undo_39 : decode cX10_undo 39 = .ok (.putfield 16, 3) := by decide +kernel
theorem dX10_undo_42 : decode cX10_undo 42 = .ok (.aload_n 0, 1) := by decide +kernel
theorem dX10_undo_43 : decode cX10_undo 43 = .ok (.aload_n 0, 1) := by decide +kernel
theorem dX10_undo_44 : decode cX10_undo 44 = .ok (.getfield 175, 3) := by decide +kernel
theorem dX10_undo_47 : decode cX10_undo 47 = .ok (.putfield 19, 3) := by decide +kernel
theorem dX10_undo_50 : decode cX10_undo 50 = .ok (.aload_n 0, 1) := by decide +kernel
theorem dX10_undo_51 : decode cX10_undo 51 = .ok (.aload_n 0, 1) := by decide +kernel
theorem dX10_undo_52 : decode cX10_undo 52 = .ok (.getfield 178, 3) := by decide +kernel
theorem dX10_undo_55 : decode cX10_undo 55 = .ok (.putfield 129, 3) := by decide +kernel
theorem dX10_undo_58 : decode cX10_undo 58 = .ok (.aload_n 0, 1) := by decide +kernel
theorem dX10_undo_59 : decode cX10_undo 59 = .ok (.aload_n 0, 1) := by decide +kernel
theorem dX10_undo_60 : decode cX10_undo 60 = .ok (.getfield 181, 3) := by decide +kernel
theorem dX10_undo_63 : decode cX10_undo 63 = .ok (.putfield 141, 3) := by decide +kernel
theorem dX10_undo_66 : decode cX10_undo 66 = .ok (.aload_n 0, 1) := by decide +kernel
theorem dX10_undo_67 : decode cX10_undo 67 = .ok (.aload_n 0, 1) := by decide +kernel
theorem dX10_undo_68 : decode cX10_undo 68 = .ok (.getfield 184, 3) := by decide +kernel
theorem dX10_undo_71 : decode cX10_undo 71 = .ok (.putfield 144, 3) := by decide +kernel
theorem dX10_undo_74 : decode cX10_undo 74 = .ok (.iconst 0, 1) := by decide +kernel
theorem dX10_undo_75 : decode cX10_undo 75 = .ok (.istore_n 1, 1) := by decide +kernel
theorem dX10_undo_76 : decode cX10_undo 76 = .ok (.iload_n 1, 1) := by decide +kernel
theorem dX10_undo_77 : decode cX10_undo 77 = .ok (.bipush 16, 2) := by decide +kernel
theorem dX10_undo_79 : decode cX10_undo 79 = .ok (.if_icmp .ge 21, 3) := by decide +kernel
theorem dX10_undo_82 : decode cX10_undo 82 = .ok (.aload_n 0, 1) := by decide +kernel
theorem dX10_undo_83 : decode cX10_undo 83 = .ok (.getfield 22, 3) := by decide +kernel
theorem dX10_undo_86 : decode cX10_undo 86 = .ok (.iload_n 1, 1) := by decide +kernel
theorem dX10_undo_87 : decode cX10_undo 87 = .ok (.aload_n 0, 1) := by decide +kernel
theorem dX10_undo_88 : decode cX10_undo 88 = .ok (.getfield 187, 3) := by decide +kernel
theorem dX10_undo_91 : decode cX10_undo 91 = .ok (.iload_n 1, 1) := by decide +kernel
theorem dX10_undo_92 : decode cX10_undo 92 = .ok (.iaload, 1) := by decide +kernel
theorem dX10_undo_93 : decode cX10_undo 93 = .ok (.iastore, 1) := by decide +kernel
theorem dX10_undo_94 : decode cX10_undo 94 = .ok (.iinc 1 1, 3) := by decide +kernel
theorem dX10_undo_97 : decode cX10_undo 97 = .ok (.goto (-21), 3) := by decide +kernel
theorem dX10_undo_100 : decode cX10_undo 100 = .ok (.iconst 0, 1) := by decide +kernel
theorem dX10_undo_101 : decode cX10_undo 101 = .ok (.istore_n 1, 1) := by decide +kernel
theorem dX10_undo_102 : decode cX10_undo 102 = .ok (.iload_n 1, 1) := by decide +kernel
theorem dX10_undo_103 : decode cX10_undo 103 = .ok (.bipush 6, 2) := by decide +kernel
theorem dX10_undo_105 : decode cX10_undo 105 = .ok (.if_icmp .ge 57, 3) := by decide +kernel
theorem dX10_undo_108 : decode cX10_undo 108 = .ok (.aload_n 0, 1) := by decide +kernel
theorem dX10_undo_109 : decode cX10_undo 109 = .ok (.getfield 26, 3) := by decide +kernel
theorem dX10_undo_112 : decode cX10_undo 112 = .ok (.iload_n 1, 1) := by decide +kernel
theorem dX10_undo_113 : decode cX10_undo 113 = .ok (.aload_n 0, 1) := by decide +kernel
theorem dX10_undo_114 : decode cX10_undo 114 = .ok (.getfield 190, 3) := by decide +kernel
theorem dX10_undo_117 : decode cX10_undo 117 = .ok (.iload_n 1, 1) := by decide +kernel
theorem dX10_undo_118 : decode cX10_undo 118 = .ok (.iaload, 1) := by decide +kernel
theorem dX10_undo_119 : decode cX10_undo 119 = .ok (.iastore, 1) := by decide +kernel
theorem dX10_undo_120 : decode cX10_undo 120 = .ok (.aload_n 0, 1) := by decide +kernel
theorem dX10_undo_121 : decode cX10_undo 121 = .ok (.getfield 29, 3) := by decide +kernel
theorem dX10_undo_124 : decode cX10_undo 124 = .ok (.iload_n 1, 1) := by decide +kernel
theorem dX10_undo_125 : decode cX10_undo 125 = .ok (.aload_n 0, 1) := by decide +kernel
theorem dX10_undo_126 : decode cX10_undo 126 = .ok (.getfield 193, 3) := by decide +kernel
theorem dX10_undo_129 : decode cX10_undo 129 = .ok (.iload_n 1, 1) := by decide +kernel
theorem dX10_undo_130 : decode cX10_undo 130 = .ok (.iaload, 1) := by decide +kernel
theorem dX10_undo_131 : decode cX10_undo 131 = .ok (.iastore, 1) := by decide +kernel
theorem dX10_undo_132 : decode cX10_undo 132 = .ok (.aload_n 0, 1) := by decide +kernel
theorem dX10_undo_133 : decode cX10_undo 133 = .ok (.getfield 32, 3) := by decide +kernel
theorem dX10_undo_136 : decode cX10_undo 136 = .ok (.iload_n 1, 1) := by decide +kernel
theorem dX10_undo_137 : decode cX10_undo 137 = .ok (.aload_n 0, 1) := by decide +kernel
theorem dX10_undo_138 : decode cX10_undo 138 = .ok (.getfield 196, 3) := by decide +kernel
theorem dX10_undo_141 : decode cX10_undo 141 = .ok (.iload_n 1, 1) := by decide +kernel
theorem dX10_undo_142 : decode cX10_undo 142 = .ok (.iaload, 1) := by decide +kernel
theorem dX10_undo_143 : decode cX10_undo 143 = .ok (.iastore, 1) := by decide +kernel
theorem dX10_undo_144 : decode cX10_undo 144 = .ok (.aload_n 0, 1) := by decide +kernel
theorem dX10_undo_145 : decode cX10_undo 145 = .ok (.getfield 35, 3) := by decide +kernel
theorem dX10_undo_148 : decode cX10_undo 148 = .ok (.iload_n 1, 1) := by decide +kernel
theorem dX10_undo_149 : decode cX10_undo 149 = .ok (.aload_n 0, 1) := by decide +kernel
theorem dX10_undo_150 : decode cX10_undo 150 = .ok (.getfield 199, 3) := by decide +kernel
theorem dX10_undo_153 : decode cX10_undo 153 = .ok (.iload_n 1, 1) := by decide +kernel
theorem dX10_undo_154 : decode cX10_undo 154 = .ok (.iaload, 1) := by decide +kernel
theorem dX10_undo_155 : decode cX10_undo 155 = .ok (.iastore, 1) := by decide +kernel
theorem dX10_undo_156 : decode cX10_undo 156 = .ok (.iinc 1 1, 3) := by decide +kernel
theorem dX10_undo_159 : decode cX10_undo 159 = .ok (.goto (-57), 3) := by decide +kernel
theorem dX10_undo_162 : decode cX10_undo 162 = .ok (.iconst 0, 1) := by decide +kernel
theorem dX10_undo_163 : decode cX10_undo 163 = .ok (.istore_n 1, 1) := by decide +kernel
theorem dX10_undo_164 : decode cX10_undo 164 = .ok (.iload_n 1, 1) := by decide +kernel
theorem dX10_undo_165 : decode cX10_undo 165 = .ok (.bipush 24, 2) := by decide +kernel
theorem dX10_undo_167 : decode cX10_undo 167 = .ok (.if_icmp .ge 21, 3) := by decide +kernel
theorem dX10_undo_170 : decode cX10_undo 170 = .ok (.aload_n 0, 1) := by decide +kernel
theorem dX10_undo_171 : decode cX10_undo 171 = .ok (.getfield 38, 3) := by decide +kernel
theorem dX10_undo_174 : decode cX10_undo 174 = .ok (.iload_n 1, 1) := by decide +kernel
theorem dX10_undo_175 : decode cX10_undo 175 = .ok (.aload_n 0, 1) := by decide +kernel
theorem dX10_undo_176 : decode cX10_undo 176 = .ok (.getfield 202, 3) := by decide +kernel
theorem dX10_undo_179 : decode cX10_undo 179 = .ok (.iload_n 1, 1) := by decide +kernel
theorem dX10_undo_180 : decode cX10_undo 180 = .ok (.iaload, 1) := by decide +kernel
theorem dX10_undo_181 : decode cX10_undo 181 = .ok (.iastore, 1) := by decide +kernel
theorem dX10_undo_182 : decode cX10_undo 182 = .ok (.iinc 1 1, 3) := by decide +kernel
theorem dX10_undo_185 : decode cX10_undo 185 = .ok (.goto (-21), 3) := by decide +kernel
theorem dX10_undo_188 : decode cX10_undo 188 = .ok (.iconst 0, 1) := by decide +kernel
theorem dX10_undo_189 : decode cX10_undo 189 = .ok (.istore_n 1, 1) := by decide +kernel
theorem dX10_undo_190 : decode cX10_undo 190 = .ok (.iload_n 1, 1) := by decide +kernel
theorem dX10_undo_191 : decode cX10_undo 191 = .ok (.iconst 5, 1) := by decide +kernel
theorem dX10_undo_192 : decode cX10_undo 192 = .ok (.if_icmp .ge 45, 3) := by decide +kernel
theorem dX10_undo_195 : decode cX10_undo 195 = .ok (.aload_n 0, 1) := by decide +kernel
theorem dX10_undo_196 : decode cX10_undo 196 = .ok (.getfield 132, 3) := by decide +kernel
theorem dX10_undo_199 : decode cX10_undo 199 = .ok (.iload_n 1, 1) := by decide +kernel
theorem dX10_undo_200 : decode cX10_undo 200 = .ok (.aload_n 0, 1) := by decide +kernel
theorem dX10_undo_201 : decode cX10_undo 201 = .ok (.getfield 205, 3) := by decide +kernel
theorem dX10_undo_204 : decode cX10_undo 204 = .ok (.iload_n 1, 1) := by decide +kernel
theorem dX10_undo_205 : decode cX10_undo 205 = .ok (.iaload, 1) := by decide +kernel
theorem dX10_undo_206 : decode cX10_undo 206 = .ok (.iastore, 1) := by decide +kernel
theorem dX10_undo_207 : decode cX10_undo 207 = .ok (.aload_n 0, 1) := by decide +kernel
theorem dX10_undo_208 : decode cX10_undo 208 = .ok (.getfield 135, 3) := by decide +kernel
theorem dX10_undo_211 : decode cX10_undo 211 = .ok (.iload_n 1, 1) := by decide +kernel
theorem dX10_undo_212 : decode cX10_undo 212 = .ok (.aload_n 0, 1) := by decide +kernel
theorem dX10_undo_213 : decode cX10_undo 213 = .ok (.getfield 208, 3) := by decide +kernel
theorem dX10_undo_216 : decode cX10_undo 216 = .ok (.iload_n 1, 1) := by decide +kernel
theorem dX10_undo_217 : decode cX10_undo 217 = .ok (.iaload, 1) := by decide +kernel
theorem dX10_undo_218 : decode cX10_undo 218 = .ok (.iastore, 1) := by decide +kernel
theorem dX10_undo_219 : decode cX10_undo 219 = .ok (.aload_n 0, 1) := by decide +kernel
theorem dX10_undo_220 : decode cX10_undo 220 = .ok (.getfield 138, 3) := by decide +kernel
theorem dX10_undo_223 : decode cX10_undo 223 = .ok (.iload_n 1, 1) := by decide +kernel
theorem dX10_undo_224 : decode cX10_undo 224 = .ok (.aload_n 0, 1) := by decide +kernel
theorem dX10_undo_225 : decode cX10_undo 225 = .ok (.getfield 211, 3) := by decide +kernel
theorem dX10_undo_228 : decode cX10_undo 228 = .ok (.iload_n 1, 1) := by decide +kernel
theorem dX10_undo_229 : decode cX10_undo 229 = .ok (.iaload, 1) := by decide +kernel
theorem dX10_undo_230 : decode cX10_undo 230 = .ok (.iastore, 1) := by decide +kernel
theorem dX10_undo_231 : decode cX10_undo 231 = .ok (.iinc 1 1, 3) := by decide +kernel
theorem dX10_undo_234 : decode cX10_undo 234 = .ok (.goto (-44), 3) := by decide +kernel
theorem dX10_undo_237 : decode cX10_undo 237 = .ok (.iconst 0, 1) := by decide +kernel
theorem dX10_undo_238 : decode cX10_undo 238 = .ok (.istore_n 1, 1) := by decide +kernel
theorem dX10_undo_239 : decode cX10_undo 239 = .ok (.iload_n 1, 1) := by decide +kernel
theorem dX10_undo_240 : decode cX10_undo 240 = .ok (.bipush 10, 2) := by decide +kernel
theorem dX10_undo_242 : decode cX10_undo 242 = .ok (.if_icmp .ge 33, 3) := by decide +kernel
theorem dX10_undo_245 : decode cX10_undo 245 = .ok (.aload_n 0, 1) := by decide +kernel
theorem dX10_undo_246 : decode cX10_undo 246 = .ok (.getfield 147, 3) := by decide +kernel
theorem dX10_undo_249 : decode cX10_undo 249 = .ok (.iload_n 1, 1) := by decide +kernel
theorem dX10_undo_250 : decode cX10_undo 250 = .ok (.aload_n 0, 1) := by decide +kernel
theorem dX10_undo_251 : decode cX10_undo 251 = .ok (.getfield 214, 3) := by decide +kernel
theorem dX10_undo_254 : decode cX10_undo 254 = .ok (.iload_n 1, 1) := by decide +kernel
theorem dX10_undo_255 : decode cX10_undo 255 = .ok (.iaload, 1) := by decide +kernel
theorem dX10_undo_256 : decode cX10_undo 256 = .ok (.iastore, 1) := by decide +kernel
theorem dX10_undo_257 : decode cX10_undo 257 = .ok (.aload_n 0, 1) := by decide +kernel
theorem dX10_undo_258 : decode cX10_undo 258 = .ok (.getfield 150, 3) := by decide +kernel
theorem dX10_undo_261 : decode cX10_undo 261 = .ok (.iload_n 1, 1) := by decide +kernel
theorem dX10_undo_262 : decode cX10_undo 262 = .ok (.aload_n 0, 1) := by decide +kernel
theorem dX10_undo_263 : decode cX10_undo 263 = .ok (.getfield 217, 3) := by decide +kernel
theorem dX10_undo_266 : decode cX10_undo 266 = .ok (.iload_n 1, 1) := by decide +kernel
theorem dX10_undo_267 : decode cX10_undo 267 = .ok (.iaload, 1) := by decide +kernel
theorem dX10_undo_268 : decode cX10_undo 268 = .ok (.iastore, 1) := by decide +kernel
theorem dX10_undo_269 : decode cX10_undo 269 = .ok (.iinc 1 1, 3) := by decide +kernel
theorem dX10_undo_272 : decode cX10_undo 272 = .ok (.goto (-33), 3) := by decide +kernel
theorem dX10_undo_275 : decode cX10_undo 275 = .ok (.iconst 0, 1) := by decide +kernel
theorem dX10_undo_276 : decode cX10_undo 276 = .ok (.istore_n 1, 1) := by decide +kernel
theorem dX10_undo_277 : decode cX10_undo 277 = .ok (.iload_n 1, 1) := by decide +kernel
theorem dX10_undo_278 : decode cX10_undo 278 = .ok (.bipush 8, 2) := by decide +kernel
theorem dX10_undo_280 : decode cX10_undo 280 = .ok (.if_icmp .ge 33, 3) := by decide +kernel
theorem dX10_undo_283 : decode cX10_undo 283 = .ok (.aload_n 0, 1) := by decide +kernel
theorem dX10_undo_284 : decode cX10_undo 284 = .ok (.getfield 153, 3) := by decide +kernel
theorem dX10_undo_287 : decode cX10_undo 287 = .ok (.iload_n 1, 1) := by decide +kernel
theorem dX10_undo_288 : decode cX10_undo 288 = .ok (.aload_n 0, 1) := by decide +kernel
theorem dX10_undo_289 : decode cX10_undo 289 = .ok (.getfield 220, 3) := by decide +kernel
theorem dX10_undo_292 : decode cX10_undo 292 = .ok (.iload_n 1, 1) := by decide +kernel
theorem dX10_undo_293 : decode cX10_undo 293 = .ok (.iaload, 1) := by decide +kernel
theorem dX10_undo_294 : decode cX10_undo 294 = .ok (.iastore, 1) := by decide +kernel
theorem dX10_undo_295 : decode cX10_undo 295 = .ok (.aload_n 0, 1) := by decide +kernel
theorem dX10_undo_296 : decode cX10_undo 296 = .ok (.getfield 156, 3) := by decide +kernel
theorem dX10_undo_299 : decode cX10_undo 299 = .ok (.iload_n 1, 1) := by decide +kernel
theorem dX10_undo_300 : decode cX10_undo 300 = .ok (.aload_n 0, 1) := by decide +kernel
theorem dX10_undo_301 : decode cX10_undo 301 = .ok (.getfield 223, 3) := by decide +kernel
theorem dX10_undo_304 : decode cX10_undo 304 = .ok (.iload_n 1, 1) := by decide +kernel
theorem dX10_undo_305 : decode cX10_undo 305 = .ok (.iaload, 1) := by decide +kernel
theorem dX10_undo_306 : decode cX10_undo 306 = .ok (.iastore, 1) := by decide +kernel
theorem dX10_undo_307 : decode cX10_undo 307 = .ok (.iinc 1 1, 3) := by decide +kernel
theorem dX10_undo_310 : decode cX10_undo 310 = .ok (.goto (-33), 3) := by decide +kernel
theorem dX10_undo_313 : decode cX10_undo 313 = .ok (.aload_n 0, 1) := by decide +kernel
theorem dX10_undo_314 : decode cX10_undo 314 = .ok (.getfield 7, 3) := by decide +kernel
theorem dX10_undo_317 : decode cX10_undo 317 = .ok (.ireturn, 1) := by decide +kernel
theorem dX10_body_0 : decode cX10_body 0 = .ok (.aload_n 0, 1) := by decide +kernel
theorem dX10_body_1 : decode cX10_body 1 = .ok (.getfield 226, 3) := by decide +kernel
theorem dX10_body_4 : decode cX10_body 4 = .ok (.bipush 20, 2) := by decide +kernel
theorem dX10_body_6 : decode cX10_body 6 = .ok (.if_icmp .ge 13, 3) := by decide +kernel
theorem dX10_body_9 : decode cX10_body 9 = .ok (.aload_n 0, 1) := by decide +kernel
theorem dX10_body_10 : decode cX10_body 10 = .ok (.getfield 229, 3) := by decide +kernel
theorem dX10_body_13 : decode cX10_body 13 = .ok (.aload_n 0, 1) := by decide +kernel
theorem dX10_body_14 : decode cX10_body 14 = .ok (.getfield 226, 3) := by decide +kernel
theorem dX10_body_17 : decode cX10_body 17 = .ok (.iload_n 1, 1) := by decide +kernel
theorem dX10_body_18 : decode cX10_body 18 = .ok (.iastore, 1) := by decide +kernel
theorem dX10_body_19 : decode cX10_body 19 = .ok (.aload_n 0, 1) := by decide +kernel
theorem dX10_body_20 : decode cX10_body 20 = .ok (.dup, 1) := by decide +kernel
theorem dX10_body_21 : decode cX10_body 21 = .ok (.getfield 226, 3) := by decide +kernel
theorem dX10_body_24 : decode cX10_body 24 = .ok (.iconst 1, 1) := by decide +kernel
theorem dX10_body_25 : decode cX10_body 25 = .ok (.iadd, 1) := by decide +kernel
theorem dX10_body_26 : decode cX10_body 26 = .ok (.putfield 226, 3) := by decide +kernel
theorem dX10_body_29 : decode cX10_body 29 = .ok (.return_, 1) := by decide +kernel
theorem dX10_goerSteps_0 : decode cX10_goerSteps 0 = .ok (.aload_n 0, 1) := by decide +kernel
theorem dX10_goerSteps_1 : decode cX10_goerSteps 1 = .ok (.bipush 10, 2) := by decide +kernel
theorem dX10_goerSteps_3 : decode cX10_goerSteps 3 = .ok (.invokevirtual 439, 3) := by decide +kernel
theorem dX10_goerSteps_6 : decode cX10_goerSteps 6 = .ok (.iload_n 2, 1) := by decide +kernel
theorem dX10_goerSteps_7 : decode cX10_goerSteps 7 = .ok (.iload_n 1, 1) := by decide +kernel
theorem dX10_goerSteps_8 : decode cX10_goerSteps 8 = .ok (.iadd, 1) := by decide +kernel
theorem dX10_goerSteps_9 : decode cX10_goerSteps 9 = .ok (.ireturn, 1) := by decide +kernel
theorem dX10_stepsAct_0 : decode cX10_stepsAct 0 = .ok (.aload_n 0, 1) := by decide +kernel
theorem dX10_stepsAct_1 : decode cX10_stepsAct 1 = .ok (.getfield 26, 3) := by decide +kernel
theorem dX10_stepsAct_4 : decode cX10_stepsAct 4 = .ok (.iload_n 1, 1) := by decide +kernel
theorem dX10_stepsAct_5 : decode cX10_stepsAct 5 = .ok (.iaload, 1) := by decide +kernel
theorem dX10_stepsAct_6 : decode cX10_stepsAct 6 = .ok (.tableswitch 83 2 6 #[34, 83, 49, 34, 63], 34) := by decide +kernel
theorem dX10_stepsAct_40 : decode cX10_stepsAct 40 = .ok (.aload_n 0, 1) := by decide +kernel
theorem dX10_stepsAct_41 : decode cX10_stepsAct 41 = .ok (.bipush 30, 2) := by decide +kernel
theorem dX10_stepsAct_43 : decode cX10_stepsAct 43 = .ok (.invokevirtual 439, 3) := by decide +kernel
theorem dX10_stepsAct_46 : decode cX10_stepsAct 46 = .ok (.aload_n 0, 1) := by decide +kernel
theorem dX10_stepsAct_47 : decode cX10_stepsAct 47 = .ok (.iload_n 1, 1) := by decide +kernel
theorem dX10_stepsAct_48 : decode cX10_stepsAct 48 = .ok (.iload_n 2, 1) := by decide +kernel
theorem dX10_stepsAct_49 : decode cX10_stepsAct 49 = .ok (.iconst 3, 1) := by decide +kernel
theorem dX10_stepsAct_50 : decode cX10_stepsAct 50 = .ok (.imul, 1) := by decide +kernel
theorem dX10_stepsAct_51 : decode cX10_stepsAct 51 = .ok (.invokevirtual 442, 3) := by decide +kernel
theorem dX10_stepsAct_54 : decode cX10_stepsAct 54 = .ok (.ireturn, 1) := by decide +kernel
theorem dX10_stepsAct_55 : decode cX10_stepsAct 55 = .ok (.aload_n 0, 1) := by decide +kernel
theorem dX10_stepsAct_56 : decode cX10_stepsAct 56 = .ok (.bipush 50, 2) := by decide +kernel
theorem dX10_stepsAct_58 : decode cX10_stepsAct 58 = .ok (.invokevirtual 439, 3) := by decide +kernel
theorem dX10_stepsAct_61 : decode cX10_stepsAct 61 = .ok (.aload_n 0, 1) := by decide +kernel
theorem dX10_stepsAct_62 : decode cX10_stepsAct 62 = .ok (.iload_n 1, 1) := by decide +kernel
theorem dX10_stepsAct_63 : decode cX10_stepsAct 63 = .ok (.iload_n 2, 1) := by decide +kernel
theorem dX10_stepsAct_64 : decode cX10_stepsAct 64 = .ok (.invokevirtual 442, 3) := by decide +kernel
theorem dX10_stepsAct_67 : decode cX10_stepsAct 67 = .ok (.ineg, 1) := by decide +kernel
theorem dX10_stepsAct_68 : decode cX10_stepsAct 68 = .ok (.ireturn, 1) := by decide +kernel
theorem dX10_stepsAct_69 : decode cX10_stepsAct 69 = .ok (.aload_n 0, 1) := by decide +kernel
theorem dX10_stepsAct_70 : decode cX10_stepsAct 70 = .ok (.bipush 71, 2) := by decide +kernel
theorem dX10_stepsAct_72 : decode cX10_stepsAct 72 = .ok (.invokevirtual 439, 3) := by decide +kernel
theorem dX10_stepsAct_75 : decode cX10_stepsAct 75 = .ok (.aload_n 0, 1) := by decide +kernel
theorem dX10_stepsAct_76 : decode cX10_stepsAct 76 = .ok (.iload_n 1, 1) := by decide +kernel
theorem dX10_stepsAct_77 : decode cX10_stepsAct 77 = .ok (.iload_n 2, 1) := by decide +kernel
theorem dX10_stepsAct_78 : decode cX10_stepsAct 78 = .ok (.invokevirtual 442, 3) := by decide +kernel
theorem dX10_stepsAct_81 : decode cX10_stepsAct 81 = .ok (.aload_n 0, 1) := by decide +kernel
theorem dX10_stepsAct_82 : decode cX10_stepsAct 82 = .ok (.getfield 29, 3) := by decide +kernel
theorem dX10_stepsAct_85 : decode cX10_stepsAct 85 = .ok (.iload_n 1, 1) := by decide +kernel
theorem dX10_stepsAct_86 : decode cX10_stepsAct 86 = .ok (.iaload, 1) := by decide +kernel
theorem dX10_stepsAct_87 : decode cX10_stepsAct 87 = .ok (.ixor, 1) := by decide +kernel
theorem dX10_stepsAct_88 : decode cX10_stepsAct 88 = .ok (.ireturn, 1) := by decide +kernel
theorem dX10_stepsAct_89 : decode cX10_stepsAct 89 = .ok (.aload_n 0, 1) := by decide +kernel
theorem dX10_stepsAct_90 : decode cX10_stepsAct 90 = .ok (.iload_n 1, 1) := by decide +kernel
theorem dX10_stepsAct_91 : decode cX10_stepsAct 91 = .ok (.iload_n 2, 1) := by decide +kernel
theorem dX10_stepsAct_92 : decode cX10_stepsAct 92 = .ok (.invokevirtual 442, 3) := by decide +kernel
theorem dX10_stepsAct_95 : decode cX10_stepsAct 95 = .ok (.ireturn, 1) := by decide +kernel
theorem dX10_goerTurns_0 : decode cX10_goerTurns 0 = .ok (.aload_n 0, 1) := by decide +kernel
theorem dX10_goerTurns_1 : decode cX10_goerTurns 1 = .ok (.bipush 11, 2) := by decide +kernel
theorem dX10_goerTurns_3 : decode cX10_goerTurns 3 = .ok (.invokevirtual 439, 3) := by decide +kernel
theorem dX10_goerTurns_6 : decode cX10_goerTurns 6 = .ok (.aload_n 0, 1) := by decide +kernel
theorem dX10_goerTurns_7 : decode cX10_goerTurns 7 = .ok (.iload_n 1, 1) := by decide +kernel
theorem dX10_goerTurns_8 : decode cX10_goerTurns 8 = .ok (.iload_n 2, 1) := by decide +kernel
theorem dX10_goerTurns_9 : decode cX10_goerTurns 9 = .ok (.invokevirtual 445, 3) := by decide +kernel
theorem dX10_goerTurns_12 : decode cX10_goerTurns 12 = .ok (.aload_n 0, 1) := by decide +kernel
theorem dX10_goerTurns_13 : decode cX10_goerTurns 13 = .ok (.getfield 29, 3) := by decide +kernel
theorem dX10_goerTurns_16 : decode cX10_goerTurns 16 = .ok (.iload_n 1, 1) := by decide +kernel
theorem dX10_goerTurns_17 : decode cX10_goerTurns 17 = .ok (.iaload, 1) := by decide +kernel
theorem dX10_goerTurns_18 : decode cX10_goerTurns 18 = .ok (.isub, 1) := by decide +kernel
theorem dX10_goerTurns_19 : decode cX10_goerTurns 19 = .ok (.ireturn, 1) := by decide +kernel
theorem dX10_pacerTurns_0 : decode cX10_pacerTurns 0 = .ok (.aload_n 0, 1) := by decide +kernel
theorem dX10_pacerTurns_1 : decode cX10_pacerTurns 1 = .ok (.bipush 20, 2) := by decide +kernel
theorem dX10_pacerTurns_3 : decode cX10_pacerTurns 3 = .ok (.invokevirtual 439, 3) := by decide +kernel
theorem dX10_pacerTurns_6 : decode cX10_pacerTurns 6 = .ok (.aload_n 0, 1) := by decide +kernel
theorem dX10_pacerTurns_7 : decode cX10_pacerTurns 7 = .ok (.iload_n 1, 1) := by decide +kernel
theorem dX10_pacerTurns_8 : decode cX10_pacerTurns 8 = .ok (.iload_n 2, 1) := by decide +kernel
theorem dX10_pacerTurns_9 : decode cX10_pacerTurns 9 = .ok (.invokevirtual 448, 3) := by decide +kernel
theorem dX10_pacerTurns_12 : decode cX10_pacerTurns 12 = .ok (.bipush 6, 2) := by decide +kernel
theorem dX10_pacerTurns_14 : decode cX10_pacerTurns 14 = .ok (.ixor, 1) := by decide +kernel
theorem dX10_pacerTurns_15 : decode cX10_pacerTurns 15 = .ok (.ireturn, 1) := by decide +kernel
theorem dX10_turnsAct_0 : decode cX10_turnsAct 0 = .ok (.aload_n 0, 1) := by decide +kernel
theorem dX10_turnsAct_1 : decode cX10_turnsAct 1 = .ok (.getfield 26, 3) := by decide +kernel
theorem dX10_turnsAct_4 : decode cX10_turnsAct 4 = .ok (.iload_n 1, 1) := by decide +kernel
theorem dX10_turnsAct_5 : decode cX10_turnsAct 5 = .ok (.iaload, 1) := by decide +kernel
theorem dX10_turnsAct_6 : decode cX10_turnsAct 6 = .ok (.lookupswitch 78 #[(1, 34), (4, 41), (6, 56)], 34) := by decide +kernel
theorem dX10_turnsAct_40 : decode cX10_turnsAct 40 = .ok (.aload_n 0, 1) := by decide +kernel
theorem dX10_turnsAct_41 : decode cX10_turnsAct 41 = .ok (.iload_n 1, 1) := by decide +kernel
theorem dX10_turnsAct_42 : decode cX10_turnsAct 42 = .ok (.iload_n 2, 1) := by decide +kernel
theorem dX10_turnsAct_43 : decode cX10_turnsAct 43 = .ok (.invokevirtual 451, 3) := by decide +kernel
theorem dX10_turnsAct_46 : decode cX10_turnsAct 46 = .ok (.ireturn, 1) := by decide +kernel
theorem dX10_turnsAct_47 : decode cX10_turnsAct 47 = .ok (.aload_n 0, 1) := by decide +kernel
theorem dX10_turnsAct_48 : decode cX10_turnsAct 48 = .ok (.bipush 51, 2) := by decide +kernel
theorem dX10_turnsAct_50 : decode cX10_turnsAct 50 = .ok (.invokevirtual 439, 3) := by decide +kernel
theorem dX10_turnsAct_53 : decode cX10_turnsAct 53 = .ok (.aload_n 0, 1) := by decide +kernel
theorem dX10_turnsAct_54 : decode cX10_turnsAct 54 = .ok (.iload_n 1, 1) := by decide +kernel
theorem dX10_turnsAct_55 : decode cX10_turnsAct 55 = .ok (.iload_n 2, 1) := by decide +kernel
theorem dX10_turnsAct_56 : decode cX10_turnsAct 56 = .ok (.iconst 1, 1) := by decide +kernel
theorem dX10_turnsAct_57 : decode cX10_turnsAct 57 = .ok (.iadd, 1) := by decide +kernel
theorem dX10_turnsAct_58 : decode cX10_turnsAct 58 = .ok (.invokevirtual 451, 3) := by decide +kernel
theorem dX10_turnsAct_61 : decode cX10_turnsAct 61 = .ok (.ireturn, 1) := by decide +kernel
theorem dX10_turnsAct_62 : decode cX10_turnsAct 62 = .ok (.aload_n 0, 1) := by decide +kernel
theorem dX10_turnsAct_63 : decode cX10_turnsAct 63 = .ok (.bipush 70, 2) := by decide +kernel
theorem dX10_turnsAct_65 : decode cX10_turnsAct 65 = .ok (.invokevirtual 439, 3) := by decide +kernel
theorem dX10_turnsAct_68 : decode cX10_turnsAct 68 = .ok (.aload_n 0, 1) := by decide +kernel
theorem dX10_turnsAct_69 : decode cX10_turnsAct 69 = .ok (.iload_n 1, 1) := by decide +kernel
theorem dX10_turnsAct_70 : decode cX10_turnsAct 70 = .ok (.iload_n 2, 1) := by decide +kernel
theorem dX10_turnsAct_71 : decode cX10_turnsAct 71 = .ok (.invokevirtual 448, 3) := by decide +kernel
theorem dX10_turnsAct_74 : decode cX10_turnsAct 74 = .ok (.istore_n 3, 1) := by decide +kernel
theorem dX10_turnsAct_75 : decode cX10_turnsAct 75 = .ok (.iload_n 3, 1) := by decide +kernel
theorem dX10_turnsAct_76 : decode cX10_turnsAct 76 = .ok (.aload_n 0, 1) := by decide +kernel
theorem dX10_turnsAct_77 : decode cX10_turnsAct 77 = .ok (.iload_n 1, 1) := by decide +kernel
theorem dX10_turnsAct_78 : decode cX10_turnsAct 78 = .ok (.iconst 2, 1) := by decide +kernel
theorem dX10_turnsAct_79 : decode cX10_turnsAct 79 = .ok (.invokevirtual 442, 3) := by decide +kernel
theorem dX10_turnsAct_82 : decode cX10_turnsAct 82 = .ok (.iadd, 1) := by decide +kernel
theorem dX10_turnsAct_83 : decode cX10_turnsAct 83 = .ok (.ireturn, 1) := by decide +kernel
theorem dX10_turnsAct_84 : decode cX10_turnsAct 84 = .ok (.aload_n 0, 1) := by decide +kernel
theorem dX10_turnsAct_85 : decode cX10_turnsAct 85 = .ok (.iload_n 1, 1) := by decide +kernel
theorem dX10_turnsAct_86 : decode cX10_turnsAct 86 = .ok (.iload_n 2, 1) := by decide +kernel
theorem dX10_turnsAct_87 : decode cX10_turnsAct 87 = .ok (.invokevirtual 448, 3) := by decide +kernel
theorem dX10_turnsAct_90 : decode cX10_turnsAct 90 = .ok (.ireturn, 1) := by decide +kernel
theorem dX10_goerTells_0 : decode cX10_goerTells 0 = .ok (.aload_n 0, 1) := by decide +kernel
theorem dX10_goerTells_1 : decode cX10_goerTells 1 = .ok (.bipush 12, 2) := by decide +kernel
theorem dX10_goerTells_3 : decode cX10_goerTells 3 = .ok (.invokevirtual 439, 3) := by decide +kernel
theorem dX10_goerTells_6 : decode cX10_goerTells 6 = .ok (.aload_n 0, 1) := by decide +kernel
theorem dX10_goerTells_7 : decode cX10_goerTells 7 = .ok (.iload_n 1, 1) := by decide +kernel
theorem dX10_goerTells_8 : decode cX10_goerTells 8 = .ok (.iload_n 2, 1) := by decide +kernel
theorem dX10_goerTells_9 : decode cX10_goerTells 9 = .ok (.invokevirtual 454, 3) := by decide +kernel
theorem dX10_goerTells_12 : decode cX10_goerTells 12 = .ok (.iconst 2, 1) := by decide +kernel
theorem dX10_goerTells_13 : decode cX10_goerTells 13 = .ok (.imul, 1) := by decide +kernel
theorem dX10_goerTells_14 : decode cX10_goerTells 14 = .ok (.ireturn, 1) := by decide +kernel
theorem dX10_tellsAct_0 : decode cX10_tellsAct 0 = .ok (.aload_n 0, 1) := by decide +kernel
theorem dX10_tellsAct_1 : decode cX10_tellsAct 1 = .ok (.getfield 26, 3) := by decide +kernel
theorem dX10_tellsAct_4 : decode cX10_tellsAct 4 = .ok (.iload_n 1, 1) := by decide +kernel
theorem dX10_tellsAct_5 : decode cX10_tellsAct 5 = .ok (.iaload, 1) := by decide +kernel
theorem dX10_tellsAct_6 : decode cX10_tellsAct 6 = .ok (.tableswitch 67 3 6 #[30, 67, 52, 30], 30) := by decide +kernel
theorem dX10_tellsAct_36 : decode cX10_tellsAct 36 = .ok (.aload_n 0, 1) := by decide +kernel
theorem dX10_tellsAct_37 : decode cX10_tellsAct 37 = .ok (.bipush 40, 2) := by decide +kernel
theorem dX10_tellsAct_39 : decode cX10_tellsAct 39 = .ok (.invokevirtual 439, 3) := by decide +kernel
theorem dX10_tellsAct_42 : decode cX10_tellsAct 42 = .ok (.aload_n 0, 1) := by decide +kernel
theorem dX10_tellsAct_43 : decode cX10_tellsAct 43 = .ok (.iload_n 1, 1) := by decide +kernel
theorem dX10_tellsAct_44 : decode cX10_tellsAct 44 = .ok (.iload_n 2, 1) := by decide +kernel
theorem dX10_tellsAct_45 : decode cX10_tellsAct 45 = .ok (.invokevirtual 457, 3) := by decide +kernel
theorem dX10_tellsAct_48 : decode cX10_tellsAct 48 = .ok (.istore_n 3, 1) := by decide +kernel
theorem dX10_tellsAct_49 : decode cX10_tellsAct 49 = .ok (.iload_n 3, 1) := by decide +kernel
theorem dX10_tellsAct_50 : decode cX10_tellsAct 50 = .ok (.aload_n 0, 1) := by decide +kernel
theorem dX10_tellsAct_51 : decode cX10_tellsAct 51 = .ok (.iload_n 1, 1) := by decide +kernel
theorem dX10_tellsAct_52 : decode cX10_tellsAct 52 = .ok (.iconst 1, 1) := by decide +kernel
theorem dX10_tellsAct_53 : decode cX10_tellsAct 53 = .ok (.invokevirtual 454, 3) := by decide +kernel
theorem dX10_tellsAct_56 : decode cX10_tellsAct 56 = .ok (.iadd, 1) := by decide +kernel
theorem dX10_tellsAct_57 : decode cX10_tellsAct 57 = .ok (.ireturn, 1) := by decide +kernel
theorem dX10_tellsAct_58 : decode cX10_tellsAct 58 = .ok (.aload_n 0, 1) := by decide +kernel
theorem dX10_tellsAct_59 : decode cX10_tellsAct 59 = .ok (.bipush 60, 2) := by decide +kernel
theorem dX10_tellsAct_61 : decode cX10_tellsAct 61 = .ok (.invokevirtual 439, 3) := by decide +kernel
theorem dX10_tellsAct_64 : decode cX10_tellsAct 64 = .ok (.aload_n 0, 1) := by decide +kernel
theorem dX10_tellsAct_65 : decode cX10_tellsAct 65 = .ok (.iload_n 1, 1) := by decide +kernel
theorem dX10_tellsAct_66 : decode cX10_tellsAct 66 = .ok (.iload_n 2, 1) := by decide +kernel
theorem dX10_tellsAct_67 : decode cX10_tellsAct 67 = .ok (.iload_n 1, 1) := by decide +kernel
theorem dX10_tellsAct_68 : decode cX10_tellsAct 68 = .ok (.isub, 1) := by decide +kernel
theorem dX10_tellsAct_69 : decode cX10_tellsAct 69 = .ok (.invokevirtual 457, 3) := by decide +kernel
theorem dX10_tellsAct_72 : decode cX10_tellsAct 72 = .ok (.ireturn, 1) := by decide +kernel
theorem dX10_tellsAct_73 : decode cX10_tellsAct 73 = .ok (.aload_n 0, 1) := by decide +kernel
theorem dX10_tellsAct_74 : decode cX10_tellsAct 74 = .ok (.iload_n 1, 1) := by decide +kernel
theorem dX10_tellsAct_75 : decode cX10_tellsAct 75 = .ok (.iload_n 2, 1) := by decide +kernel
theorem dX10_tellsAct_76 : decode cX10_tellsAct 76 = .ok (.invokevirtual 457, 3) := by decide +kernel
theorem dX10_tellsAct_79 : decode cX10_tellsAct 79 = .ok (.ireturn, 1) := by decide +kernel
theorem dX10_act_0 : decode cX10_act 0 = .ok (.aload_n 0, 1) := by decide +kernel
theorem dX10_act_1 : decode cX10_act 1 = .ok (.iconst 0, 1) := by decide +kernel
theorem dX10_act_2 : decode cX10_act 2 = .ok (.putfield 226, 3) := by decide +kernel
theorem dX10_act_5 : decode cX10_act 5 = .ok (.aload_n 0, 1) := by decide +kernel
theorem dX10_act_6 : decode cX10_act 6 = .ok (.iload_n 1, 1) := by decide +kernel
theorem dX10_act_7 : decode cX10_act 7 = .ok (.invokevirtual 264, 3) := by decide +kernel
theorem dX10_act_10 : decode cX10_act 10 = .ok (.ifCond .eq 13, 3) := by decide +kernel
theorem dX10_act_13 : decode cX10_act 13 = .ok (.aload_n 0, 1) := by decide +kernel
theorem dX10_act_14 : decode cX10_act 14 = .ok (.iload_n 2, 1) := by decide +kernel
theorem dX10_act_15 : decode cX10_act 15 = .ok (.iconst 0, 1) := by decide +kernel
theorem dX10_act_16 : decode cX10_act 16 = .ok (.iconst 2, 1) := by decide +kernel
theorem dX10_act_17 : decode cX10_act 17 = .ok (.invokevirtual 253, 3) := by decide +kernel
theorem dX10_act_20 : decode cX10_act 20 = .ok (.ifCond .ne 5, 3) := by decide +kernel
theorem dX10_act_23 : decode cX10_act 23 = .ok (.iconst 0, 1) := by decide +kernel
theorem dX10_act_24 : decode cX10_act 24 = .ok (.ireturn, 1) := by decide +kernel
theorem dX10_act_25 : decode cX10_act 25 = .ok (.iload_n 2, 1) := by decide +kernel
theorem dX10_act_26 : decode cX10_act 26 = .ok (.ifCond .ne 12, 3) := by decide +kernel
theorem dX10_act_29 : decode cX10_act 29 = .ok (.aload_n 0, 1) := by decide +kernel
theorem dX10_act_30 : decode cX10_act 30 = .ok (.iload_n 1, 1) := by decide +kernel
theorem dX10_act_31 : decode cX10_act 31 = .ok (.iload_n 3, 1) := by decide +kernel
theorem dX10_act_32 : decode cX10_act 32 = .ok (.invokevirtual 445, 3) := by decide +kernel
theorem dX10_act_35 : decode cX10_act 35 = .ok (.goto 23, 3) := by decide +kernel
theorem dX10_act_38 : decode cX10_act 38 = .ok (.iload_n 2, 1) := by decide +kernel
theorem dX10_act_39 : decode cX10_act 39 = .ok (.iconst 1, 1) := by decide +kernel
theorem dX10_act_40 : decode cX10_act 40 = .ok (.if_icmp .ne 12, 3) := by decide +kernel
theorem dX10_act_43 : decode cX10_act 43 = .ok (.aload_n 0, 1) := by decide +kernel
theorem dX10_act_44 : decode cX10_act 44 = .ok (.iload_n 1, 1) := by decide +kernel
theorem dX10_act_45 : decode cX10_act 45 = .ok (.iload_n 3, 1) := by decide +kernel
theorem dX10_act_46 : decode cX10_act 46 = .ok (.invokevirtual 454, 3) := by decide +kernel
theorem dX10_act_49 : decode cX10_act 49 = .ok (.goto 9, 3) := by decide +kernel
theorem dX10_act_52 : decode cX10_act 52 = .ok (.aload_n 0, 1) := by decide +kernel
theorem dX10_act_53 : decode cX10_act 53 = .ok (.iload_n 1, 1) := by decide +kernel
theorem dX10_act_54 : decode cX10_act 54 = .ok (.iload_n 3, 1) := by decide +kernel
theorem dX10_act_55 : decode cX10_act 55 = .ok (.invokevirtual 460, 3) := by decide +kernel
theorem dX10_act_58 : decode cX10_act 58 = .ok (.ireturn, 1) := by decide +kernel
theorem dX10_trace_0 : decode cX10_trace 0 = .ok (.aload_n 0, 1) := by decide +kernel
theorem dX10_trace_1 : decode cX10_trace 1 = .ok (.iload_n 1, 1) := by decide +kernel
theorem dX10_trace_2 : decode cX10_trace 2 = .ok (.iconst 0, 1) := by decide +kernel
theorem dX10_trace_3 : decode cX10_trace 3 = .ok (.bipush 19, 2) := by decide +kernel
theorem dX10_trace_5 : decode cX10_trace 5 = .ok (.invokevirtual 253, 3) := by decide +kernel
theorem dX10_trace_8 : decode cX10_trace 8 = .ok (.ifCond .eq 20, 3) := by decide +kernel
theorem dX10_trace_11 : decode cX10_trace 11 = .ok (.iload_n 1, 1) := by decide +kernel
theorem dX10_trace_12 : decode cX10_trace 12 = .ok (.aload_n 0, 1) := by decide +kernel
theorem dX10_trace_13 : decode cX10_trace 13 = .ok (.getfield 226, 3) := by decide +kernel
theorem dX10_trace_16 : decode cX10_trace 16 = .ok (.if_icmp .ge 12, 3) := by decide +kernel
theorem dX10_trace_19 : decode cX10_trace 19 = .ok (.aload_n 0, 1) := by decide +kernel
theorem dX10_trace_20 : decode cX10_trace 20 = .ok (.getfield 229, 3) := by decide +kernel
theorem dX10_trace_23 : decode cX10_trace 23 = .ok (.iload_n 1, 1) := by decide +kernel
theorem dX10_trace_24 : decode cX10_trace 24 = .ok (.iaload, 1) := by decide +kernel
theorem dX10_trace_25 : decode cX10_trace 25 = .ok (.goto 4, 3) := by decide +kernel
theorem dX10_trace_28 : decode cX10_trace 28 = .ok (.iconst (-1), 1) := by decide +kernel
theorem dX10_trace_29 : decode cX10_trace 29 = .ok (.ireturn, 1) := by decide +kernel
theorem dX10_taken_0 : decode cX10_taken 0 = .ok (.aload_n 0, 1) := by decide +kernel
theorem dX10_taken_1 : decode cX10_taken 1 = .ok (.iload_n 2, 1) := by decide +kernel
theorem dX10_taken_2 : decode cX10_taken 2 = .ok (.iconst 0, 1) := by decide +kernel
theorem dX10_taken_3 : decode cX10_taken 3 = .ok (.bipush 6, 2) := by decide +kernel
theorem dX10_taken_5 : decode cX10_taken 5 = .ok (.invokevirtual 253, 3) := by decide +kernel
theorem dX10_taken_8 : decode cX10_taken 8 = .ok (.ifCond .ne 6, 3) := by decide +kernel
theorem dX10_taken_11 : decode cX10_taken 11 = .ok (.bipush (-2), 2) := by decide +kernel
theorem dX10_taken_13 : decode cX10_taken 13 = .ok (.ireturn, 1) := by decide +kernel
theorem dX10_taken_14 : decode cX10_taken 14 = .ok (.aload_n 0, 1) := by decide +kernel
theorem dX10_taken_15 : decode cX10_taken 15 = .ok (.iload_n 1, 1) := by decide +kernel
theorem dX10_taken_16 : decode cX10_taken 16 = .ok (.invokevirtual 264, 3) := by decide +kernel
theorem dX10_taken_19 : decode cX10_taken 19 = .ok (.ifCond .ne 6, 3) := by decide +kernel
theorem dX10_taken_22 : decode cX10_taken 22 = .ok (.bipush (-11), 2) := by decide +kernel
theorem dX10_taken_24 : decode cX10_taken 24 = .ok (.ireturn, 1) := by decide +kernel
theorem dX10_taken_25 : decode cX10_taken 25 = .ok (.aload_n 0, 1) := by decide +kernel
theorem dX10_taken_26 : decode cX10_taken 26 = .ok (.getfield 26, 3) := by decide +kernel
theorem dX10_taken_29 : decode cX10_taken 29 = .ok (.iload_n 1, 1) := by decide +kernel
theorem dX10_taken_30 : decode cX10_taken 30 = .ok (.iaload, 1) := by decide +kernel
theorem dX10_taken_31 : decode cX10_taken 31 = .ok (.istore_n 3, 1) := by decide +kernel
theorem dX10_taken_32 : decode cX10_taken 32 = .ok (.iload_n 2, 1) := by decide +kernel
theorem dX10_taken_33 : decode cX10_taken 33 = .ok (.ifCond .eq 39, 3) := by decide +kernel
theorem dX10_taken_36 : decode cX10_taken 36 = .ok (.iload_n 3, 1) := by decide +kernel
theorem dX10_taken_37 : decode cX10_taken 37 = .ok (.iload_n 2, 1) := by decide +kernel
theorem dX10_taken_38 : decode cX10_taken 38 = .ok (.if_icmp .eq 34, 3) := by decide +kernel
theorem dX10_taken_41 : decode cX10_taken 41 = .ok (.iload_n 2, 1) := by decide +kernel
theorem dX10_taken_42 : decode cX10_taken 42 = .ok (.iconst 1, 1) := by decide +kernel
theorem dX10_taken_43 : decode cX10_taken 43 = .ok (.if_icmp .ne 8, 3) := by decide +kernel
theorem dX10_taken_46 : decode cX10_taken 46 = .ok (.iload_n 3, 1) := by decide +kernel
theorem dX10_taken_47 : decode cX10_taken 47 = .ok (.iconst 4, 1) := by decide +kernel
theorem dX10_taken_48 : decode cX10_taken 48 = .ok (.if_icmp .eq 24, 3) := by decide +kernel
theorem dX10_taken_51 : decode cX10_taken 51 = .ok (.iload_n 2, 1) := by decide +kernel
theorem dX10_taken_52 : decode cX10_taken 52 = .ok (.iconst 2, 1) := by decide +kernel
theorem dX10_taken_53 : decode cX10_taken 53 = .ok (.if_icmp .ne 8, 3) := by decide +kernel
theorem dX10_taken_56 : decode cX10_taken 56 = .ok (.iload_n 3, 1) := by decide +kernel
theorem dX10_taken_57 : decode cX10_taken 57 = .ok (.iconst 5, 1) := by decide +kernel
theorem dX10_taken_58 : decode cX10_taken 58 = .ok (.if_icmp .eq 14, 3) := by decide +kernel
theorem dX10_taken_61 : decode cX10_taken 61 = .ok (.iload_n 2, 1) := by decide +kernel
theorem dX10_taken_62 : decode cX10_taken 62 = .ok (.iconst 3, 1) := by decide +kernel
theorem dX10_taken_63 : decode cX10_taken 63 = .ok (.if_icmp .ne 13, 3) := by decide +kernel
theorem dX10_taken_66 : decode cX10_taken 66 = .ok (.iload_n 3, 1) := by decide +kernel
theorem dX10_taken_67 : decode cX10_taken 67 = .ok (.bipush 6, 2) := by decide +kernel
theorem dX10_taken_69 : decode cX10_taken 69 = .ok (.if_icmp .ne 7, 3) := by decide +kernel
theorem dX10_taken_72 : decode cX10_taken 72 = .ok (.iload_n 3, 1) := by decide +kernel
theorem dX10_taken_73 : decode cX10_taken 73 = .ok (.goto 5, 3) := by decide +kernel
theorem dX10_taken_76 : decode cX10_taken 76 = .ok (.bipush (-12), 2) := by decide +kernel
theorem dX10_taken_78 : decode cX10_taken 78 = .ok (.ireturn, 1) := by decide +kernel
theorem dX10_count_0 : decode cX10_count 0 = .ok (.iload_n 1, 1) := by decide +kernel
theorem dX10_count_1 : decode cX10_count 1 = .ok (.tableswitch 78 0 6 #[43, 48, 53, 58, 63, 68, 73], 43) := by decide +kernel
theorem dX10_count_44 : decode cX10_count 44 = .ok (.aload_n 0, 1) := by decide +kernel
theorem dX10_count_45 : decode cX10_count 45 = .ok (.getfield 7, 3) := by decide +kernel
theorem dX10_count_48 : decode cX10_count 48 = .ok (.ireturn, 1) := by decide +kernel
theorem dX10_count_49 : decode cX10_count 49 = .ok (.aload_n 0, 1) := by decide +kernel
theorem dX10_count_50 : decode cX10_count 50 = .ok (.getfield 41, 3) := by decide +kernel
theorem dX10_count_53 : decode cX10_count 53 = .ok (.ireturn, 1) := by decide +kernel
theorem dX10_count_54 : decode cX10_count 54 = .ok (.aload_n 0, 1) := by decide +kernel
theorem dX10_count_55 : decode cX10_count 55 = .ok (.getfield 129, 3) := by decide +kernel
theorem dX10_count_58 : decode cX10_count 58 = .ok (.ireturn, 1) := by decide +kernel
theorem dX10_count_59 : decode cX10_count 59 = .ok (.aload_n 0, 1) := by decide +kernel
theorem dX10_count_60 : decode cX10_count 60 = .ok (.getfield 141, 3) := by decide +kernel
theorem dX10_count_63 : decode cX10_count 63 = .ok (.ireturn, 1) := by decide +kernel
theorem dX10_count_64 : decode cX10_count 64 = .ok (.aload_n 0, 1) := by decide +kernel
theorem dX10_count_65 : decode cX10_count 65 = .ok (.getfield 144, 3) := by decide +kernel
theorem dX10_count_68 : decode cX10_count 68 = .ok (.ireturn, 1) := by decide +kernel
theorem dX10_count_69 : decode cX10_count 69 = .ok (.aload_n 0, 1) := by decide +kernel
theorem dX10_count_70 : decode cX10_count 70 = .ok (.getfield 47, 3) := by decide +kernel
theorem dX10_count_73 : decode cX10_count 73 = .ok (.ireturn, 1) := by decide +kernel
theorem dX10_count_74 : decode cX10_count 74 = .ok (.aload_n 0, 1) := by decide +kernel
theorem dX10_count_75 : decode cX10_count 75 = .ok (.getfield 226, 3) := by decide +kernel
theorem dX10_count_78 : decode cX10_count 78 = .ok (.ireturn, 1) := by decide +kernel
theorem dX10_count_79 : decode cX10_count 79 = .ok (.bipush (-2), 2) := by decide +kernel
theorem dX10_count_81 : decode cX10_count 81 = .ok (.ireturn, 1) := by decide +kernel
theorem dX10_isTape_0 : decode cX10_isTape 0 = .ok (.aload_n 0, 1) := by decide +kernel
theorem dX10_isTape_1 : decode cX10_isTape 1 = .ok (.iload_n 1, 1) := by decide +kernel
theorem dX10_isTape_2 : decode cX10_isTape 2 = .ok (.iconst 0, 1) := by decide +kernel
theorem dX10_isTape_3 : decode cX10_isTape 3 = .ok (.iconst 5, 1) := by decide +kernel
theorem dX10_isTape_4 : decode cX10_isTape 4 = .ok (.invokevirtual 253, 3) := by decide +kernel
theorem dX10_isTape_7 : decode cX10_isTape 7 = .ok (.ireturn, 1) := by decide +kernel
theorem dX10_tape_0 : decode cX10_tape 0 = .ok (.aload_n 0, 1) := by decide +kernel
theorem dX10_tape_1 : decode cX10_tape 1 = .ok (.iload_n 1, 1) := by decide +kernel
theorem dX10_tape_2 : decode cX10_tape 2 = .ok (.invokevirtual 436, 3) := by decide +kernel
theorem dX10_tape_5 : decode cX10_tape 5 = .ok (.ifCond .ne 5, 3) := by decide +kernel
theorem dX10_tape_8 : decode cX10_tape 8 = .ok (.iconst (-1), 1) := by decide +kernel
theorem dX10_tape_9 : decode cX10_tape 9 = .ok (.ireturn, 1) := by decide +kernel
theorem dX10_tape_10 : decode cX10_tape 10 = .ok (.aload_n 0, 1) := by decide +kernel
theorem dX10_tape_11 : decode cX10_tape 11 = .ok (.iload_n 2, 1) := by decide +kernel
theorem dX10_tape_12 : decode cX10_tape 12 = .ok (.iconst (-1), 1) := by decide +kernel
theorem dX10_tape_13 : decode cX10_tape 13 = .ok (.iconst 4, 1) := by decide +kernel
theorem dX10_tape_14 : decode cX10_tape 14 = .ok (.invokevirtual 253, 3) := by decide +kernel
theorem dX10_tape_17 : decode cX10_tape 17 = .ok (.ifCond .eq 13, 3) := by decide +kernel
theorem dX10_tape_20 : decode cX10_tape 20 = .ok (.iload_n 2, 1) := by decide +kernel
theorem dX10_tape_21 : decode cX10_tape 21 = .ok (.ifCond .lt 12, 3) := by decide +kernel
theorem dX10_tape_24 : decode cX10_tape 24 = .ok (.iload_n 3, 1) := by decide +kernel
theorem dX10_tape_25 : decode cX10_tape 25 = .ok (.bipush 60, 2) := by decide +kernel
theorem dX10_tape_27 : decode cX10_tape 27 = .ok (.if_icmp .le 6, 3) := by decide +kernel
theorem dX10_tape_30 : decode cX10_tape 30 = .ok (.bipush (-2), 2) := by decide +kernel
theorem dX10_tape_32 : decode cX10_tape 32 = .ok (.ireturn, 1) := by decide +kernel
theorem dX10_tape_33 : decode cX10_tape 33 = .ok (.iload_n 2, 1) := by decide +kernel
theorem dX10_tape_34 : decode cX10_tape 34 = .ok (.ifCond .lt 10, 3) := by decide +kernel
theorem dX10_tape_37 : decode cX10_tape 37 = .ok (.iload_n 3, 1) := by decide +kernel
theorem dX10_tape_38 : decode cX10_tape 38 = .ok (.ifCond .ge 6, 3) := by decide +kernel
theorem dX10_tape_41 : decode cX10_tape 41 = .ok (.bipush (-14), 2) := by decide +kernel
theorem dX10_tape_43 : decode cX10_tape 43 = .ok (.ireturn, 1) := by decide +kernel
theorem dX10_tape_44 : decode cX10_tape 44 = .ok (.aload_n 0, 1) := by decide +kernel
theorem dX10_tape_45 : decode cX10_tape 45 = .ok (.getfield 232, 3) := by decide +kernel
theorem dX10_tape_48 : decode cX10_tape 48 = .ok (.iload_n 1, 1) := by decide +kernel
theorem dX10_tape_49 : decode cX10_tape 49 = .ok (.iload_n 2, 1) := by decide +kernel
theorem dX10_tape_50 : decode cX10_tape 50 = .ok (.iastore, 1) := by decide +kernel
theorem dX10_tape_51 : decode cX10_tape 51 = .ok (.aload_n 0, 1) := by decide +kernel
theorem dX10_tape_52 : decode cX10_tape 52 = .ok (.getfield 235, 3) := by decide +kernel
theorem dX10_tape_55 : decode cX10_tape 55 = .ok (.iload_n 1, 1) := by decide +kernel
theorem dX10_tape_56 : decode cX10_tape 56 = .ok (.iload_n 2, 1) := by decide +kernel
theorem dX10_tape_57 : decode cX10_tape 57 = .ok (.ifCond .ge 7, 3) := by decide +kernel
theorem dX10_tape_60 : decode cX10_tape 60 = .ok (.iconst 0, 1) := by decide +kernel
theorem dX10_tape_61 : decode cX10_tape 61 = .ok (.goto 4, 3) := by decide +kernel
theorem dX10_tape_64 : decode cX10_tape 64 = .ok (.iload_n 3, 1) := by decide +kernel
theorem dX10_tape_65 : decode cX10_tape 65 = .ok (.iastore, 1) := by decide +kernel
theorem dX10_tape_66 : decode cX10_tape 66 = .ok (.iconst 0, 1) := by decide +kernel
theorem dX10_tape_67 : decode cX10_tape 67 = .ok (.istore 4, 2) := by decide +kernel
theorem dX10_tape_69 : decode cX10_tape 69 = .ok (.iload 4, 2) := by decide +kernel
theorem dX10_tape_71 : decode cX10_tape 71 = .ok (.bipush 60, 2) := by decide +kernel
theorem dX10_tape_73 : decode cX10_tape 73 = .ok (.if_icmp .ge 22, 3) := by decide +kernel
theorem dX10_tape_76 : decode cX10_tape 76 = .ok (.aload_n 0, 1) := by decide +kernel
theorem dX10_tape_77 : decode cX10_tape 77 = .ok (.getfield 238, 3) := by decide +kernel
theorem dX10_tape_80 : decode cX10_tape 80 = .ok (.bipush 60, 2) := by decide +kernel
theorem dX10_tape_82 : decode cX10_tape 82 = .ok (.iload_n 1, 1) := by decide +kernel
theorem dX10_tape_83 : decode cX10_tape 83 = .ok (.imul, 1) := by decide +kernel
theorem dX10_tape_84 : decode cX10_tape 84 = .ok (.iload 4, 2) := by decide +kernel
theorem dX10_tape_86 : decode cX10_tape 86 = .ok (.iadd, 1) := by decide +kernel
theorem dX10_tape_87 : decode cX10_tape 87 = .ok (.lconst 0, 1) := by decide +kernel
theorem dX10_tape_88 : decode cX10_tape 88 = .ok (.lastore, 1) := by decide +kernel
theorem dX10_tape_89 : decode cX10_tape 89 = .ok (.iinc 4 1, 3) := by decide +kernel
theorem dX10_tape_92 : decode cX10_tape 92 = .ok (.goto (-23), 3) := by decide +kernel
theorem dX10_tape_95 : decode cX10_tape 95 = .ok (.iconst 1, 1) := by decide +kernel
theorem dX10_tape_96 : decode cX10_tape 96 = .ok (.ireturn, 1) := by decide +kernel
theorem dX10_narrow_0 : decode cX10_narrow 0 = .ok (.iload_n 1, 1) := by decide +kernel
theorem dX10_narrow_1 : decode cX10_narrow 1 = .ok (.ifCond .ne 10, 3) := by decide +kernel
theorem dX10_narrow_4 : decode cX10_narrow 4 = .ok (.lload_n 2, 1) := by decide +kernel
theorem dX10_narrow_5 : decode cX10_narrow 5 = .ok (.l2i, 1) := by decide +kernel
theorem dX10_narrow_6 : decode cX10_narrow 6 = .ok (.i2b, 1) := by decide +kernel
theorem dX10_narrow_7 : decode cX10_narrow 7 = .ok (.i2l, 1) := by decide +kernel
theorem dX10_narrow_8 : decode cX10_narrow 8 = .ok (.goto 46, 3) := by decide +kernel
theorem dX10_narrow_11 : decode cX10_narrow 11 = .ok (.iload_n 1, 1) := by decide +kernel
theorem dX10_narrow_12 : decode cX10_narrow 12 = .ok (.iconst 1, 1) := by decide +kernel
theorem dX10_narrow_13 : decode cX10_narrow 13 = .ok (.if_icmp .ne 10, 3) := by decide +kernel
theorem dX10_narrow_16 : decode cX10_narrow 16 = .ok (.lload_n 2, 1) := by decide +kernel
theorem dX10_narrow_17 : decode cX10_narrow 17 = .ok (.l2i, 1) := by decide +kernel
theorem dX10_narrow_18 : decode cX10_narrow 18 = .ok (.i2s, 1) := by decide +kernel
theorem dX10_narrow_19 : decode cX10_narrow 19 = .ok (.i2l, 1) := by decide +kernel
theorem dX10_narrow_20 : decode cX10_narrow 20 = .ok (.goto 34, 3) := by decide +kernel
theorem dX10_narrow_23 : decode cX10_narrow 23 = .ok (.iload_n 1, 1) := by decide +kernel
theorem dX10_narrow_24 : decode cX10_narrow 24 = .ok (.iconst 2, 1) := by decide +kernel
theorem dX10_narrow_25 : decode cX10_narrow 25 = .ok (.if_icmp .ne 9, 3) := by decide +kernel
theorem dX10_narrow_28 : decode cX10_narrow 28 = .ok (.lload_n 2, 1) := by decide +kernel
theorem dX10_narrow_29 : decode cX10_narrow 29 = .ok (.l2i, 1) := by decide +kernel
theorem dX10_narrow_30 : decode cX10_narrow 30 = .ok (.i2l, 1) := by decide +kernel
theorem dX10_narrow_31 : decode cX10_narrow 31 = .ok (.goto 23, 3) := by decide +kernel
theorem dX10_narrow_34 : decode cX10_narrow 34 = .ok (.iload_n 1, 1) := by decide +kernel
theorem dX10_narrow_35 : decode cX10_narrow 35 = .ok (.iconst 4, 1) := by decide +kernel
theorem dX10_narrow_36 : decode cX10_narrow 36 = .ok (.if_icmp .ne 17, 3) := by decide +kernel
theorem dX10_narrow_39 : decode cX10_narrow 39 = .ok (.lload_n 2, 1) := by decide +kernel
theorem dX10_narrow_40 : decode cX10_narrow 40 = .ok (.lconst 0, 1) := by decide +kernel
theorem dX10_narrow_41 : decode cX10_narrow 41 = .ok (.lcmp, 1) := by decide +kernel
theorem dX10_narrow_42 : decode cX10_narrow 42 = .ok (.ifCond .eq 7, 3) := by decide +kernel
theorem dX10_narrow_45 : decode cX10_narrow 45 = .ok (.lconst 1, 1) := by decide +kernel
theorem dX10_narrow_46 : decode cX10_narrow 46 = .ok (.goto 8, 3) := by decide +kernel
theorem dX10_narrow_49 : decode cX10_narrow 49 = .ok (.lconst 0, 1) := by decide +kernel
theorem dX10_narrow_50 : decode cX10_narrow 50 = .ok (.goto 4, 3) := by decide +kernel
theorem dX10_narrow_53 : decode cX10_narrow 53 = .ok (.lload_n 2, 1) := by decide +kernel
theorem dX10_narrow_54 : decode cX10_narrow 54 = .ok (.lreturn, 1) := by decide +kernel
theorem dX10_item_0 : decode cX10_item 0 = .ok (.aload_n 0, 1) := by decide +kernel
theorem dX10_item_1 : decode cX10_item 1 = .ok (.iload_n 1, 1) := by decide +kernel
theorem dX10_item_2 : decode cX10_item 2 = .ok (.invokevirtual 436, 3) := by decide +kernel
theorem dX10_item_5 : decode cX10_item 5 = .ok (.ifCond .ne 5, 3) := by decide +kernel
theorem dX10_item_8 : decode cX10_item 8 = .ok (.iconst (-1), 1) := by decide +kernel
theorem dX10_item_9 : decode cX10_item 9 = .ok (.ireturn, 1) := by decide +kernel
theorem dX10_item_10 : decode cX10_item 10 = .ok (.aload_n 0, 1) := by decide +kernel
theorem dX10_item_11 : decode cX10_item 11 = .ok (.getfield 232, 3) := by decide +kernel
theorem dX10_item_14 : decode cX10_item 14 = .ok (.iload_n 1, 1) := by decide +kernel
theorem dX10_item_15 : decode cX10_item 15 = .ok (.iaload, 1) := by decide +kernel
theorem dX10_item_16 : decode cX10_item 16 = .ok (.ifCond .ge 6, 3) := by decide +kernel
theorem dX10_item_19 : decode cX10_item 19 = .ok (.bipush (-11), 2) := by decide +kernel
theorem dX10_item_21 : decode cX10_item 21 = .ok (.ireturn, 1) := by decide +kernel
theorem dX10_item_22 : decode cX10_item 22 = .ok (.aload_n 0, 1) := by decide +kernel
theorem dX10_item_23 : decode cX10_item 23 = .ok (.iload_n 2, 1) := by decide +kernel
theorem dX10_item_24 : decode cX10_item 24 = .ok (.iconst 0, 1) := by decide +kernel
theorem dX10_item_25 : decode cX10_item 25 = .ok (.aload_n 0, 1) := by decide +kernel
theorem dX10_item_26 : decode cX10_item 26 = .ok (.getfield 235, 3) := by decide +kernel
theorem dX10_item_29 : decode cX10_item 29 = .ok (.iload_n 1, 1) := by decide +kernel
theorem dX10_item_30 : decode cX10_item 30 = .ok (.iaload, 1) := by decide +kernel
theorem dX10_item_31 : decode cX10_item 31 = .ok (.iconst 1, 1) := by decide +kernel
theorem dX10_item_32 : decode cX10_item 32 = .ok (.isub, 1) := by decide +kernel
theorem dX10_item_33 : decode cX10_item 33 = .ok (.invokevirtual 253, 3) := by decide +kernel
theorem dX10_item_36 : decode cX10_item 36 = .ok (.ifCond .ne 6, 3) := by decide +kernel
theorem dX10_item_39 : decode cX10_item 39 = .ok (.bipush (-13), 2) := by decide +kernel
theorem dX10_item_41 : decode cX10_item 41 = .ok (.ireturn, 1) := by decide +kernel
theorem dX10_item_42 : decode cX10_item 42 = .ok (.aload_n 0, 1) := by decide +kernel
theorem dX10_item_43 : decode cX10_item 43 = .ok (.getfield 238, 3) := by decide +kernel
theorem dX10_item_46 : decode cX10_item 46 = .ok (.bipush 60, 2) := by decide +kernel
theorem dX10_item_48 : decode cX10_item 48 = .ok (.iload_n 1, 1) := by decide +kernel
theorem dX10_item_49 : decode cX10_item 49 = .ok (.imul, 1) := by decide +kernel
theorem dX10_item_50 : decode cX10_item 50 = .ok (.iload_n 2, 1) := by decide +kernel
theorem dX10_item_51 : decode cX10_item 51 = .ok (.iadd, 1) := by decide +kernel
theorem dX10_item_52 : decode cX10_item 52 = .ok (.aload_n 0, 1) := by decide +kernel
theorem dX10_item_53 : decode cX10_item 53 = .ok (.aload_n 0, 1) := by decide +kernel
theorem dX10_item_54 : decode cX10_item 54 = .ok (.getfield 232, 3) := by decide +kernel
theorem dX10_item_57 : decode cX10_item 57 = .ok (.iload_n 1, 1) := by decide +kernel
theorem dX10_item_58 : decode cX10_item 58 = .ok (.iaload, 1) := by decide +kernel
theorem dX10_item_59 : decode cX10_item 59 = .ok (.lload_n 3, 1) := by decide +kernel
theorem dX10_item_60 : decode cX10_item 60 = .ok (.invokevirtual 463, 3) := by decide +kernel
theorem dX10_item_63 : decode cX10_item 63 = .ok (.lastore, 1) := by decide +kernel
theorem dX10_item_64 : decode cX10_item 64 = .ok (.iconst 1, 1) := by decide +kernel
theorem dX10_item_65 : decode cX10_item 65 = .ok (.ireturn, 1) := by decide +kernel
theorem dX10_read_0 : decode cX10_read 0 = .ok (.aload_n 0, 1) := by decide +kernel
theorem dX10_read_1 : decode cX10_read 1 = .ok (.iload_n 1, 1) := by decide +kernel
theorem dX10_read_2 : decode cX10_read 2 = .ok (.invokevirtual 436, 3) := by decide +kernel
theorem dX10_read_5 : decode cX10_read 5 = .ok (.ifCond .eq 29, 3) := by decide +kernel
theorem dX10_read_8 : decode cX10_read 8 = .ok (.aload_n 0, 1) := by decide +kernel
theorem dX10_read_9 : decode cX10_read 9 = .ok (.getfield 232, 3) := by decide +kernel
theorem dX10_read_12 : decode cX10_read 12 = .ok (.iload_n 1, 1) := by decide +kernel
theorem dX10_read_13 : decode cX10_read 13 = .ok (.iaload, 1) := by decide +kernel
theorem dX10_read_14 : decode cX10_read 14 = .ok (.ifCond .lt 20, 3) := by decide +kernel
theorem dX10_read_17 : decode cX10_read 17 = .ok (.aload_n 0, 1) := by decide +kernel
theorem dX10_read_18 : decode cX10_read 18 = .ok (.iload_n 2, 1) := by decide +kernel
theorem dX10_read_19 : decode cX10_read 19 = .ok (.iconst 0, 1) := by decide +kernel
theorem dX10_read_20 : decode cX10_read 20 = .ok (.aload_n 0, 1) := by decide +kernel
theorem dX10_read_21 : decode cX10_read 21 = .ok (.getfield 235, 3) := by decide +kernel
theorem dX10_read_24 : decode cX10_read 24 = .ok (.iload_n 1, 1) := by decide +kernel
theorem dX10_read_25 : decode cX10_read 25 = .ok (.iaload, 1) := by decide +kernel
theorem dX10_read_26 : decode cX10_read 26 = .ok (.iconst 1, 1) := by decide +kernel
theorem dX10_read_27 : decode cX10_read 27 = .ok (.isub, 1) := by decide +kernel
theorem dX10_read_28 : decode cX10_read 28 = .ok (.invokevirtual 253, 3) := by decide +kernel
theorem dX10_read_31 : decode cX10_read 31 = .ok (.ifCond .ne 9, 3) := by decide +kernel
theorem dX10_read_34 : decode cX10_read 34 = .ok (.ldc2_w 424, 3) := by decide +kernel
theorem dX10_read_37 : decode cX10_read 37 = .ok (.goto 14, 3) := by decide +kernel
theorem dX10_read_40 : decode cX10_read 40 = .ok (.aload_n 0, 1) := by decide +kernel
theorem dX10_read_41 : decode cX10_read 41 = .ok (.getfield 238, 3) := by decide +kernel
theorem dX10_read_44 : decode cX10_read 44 = .ok (.bipush 60, 2) := by decide +kernel
theorem dX10_read_46 : decode cX10_read 46 = .ok (.iload_n 1, 1) := by decide +kernel
theorem dX10_read_47 : decode cX10_read 47 = .ok (.imul, 1) := by decide +kernel
theorem dX10_read_48 : decode cX10_read 48 = .ok (.iload_n 2, 1) := by decide +kernel
theorem dX10_read_49 : decode cX10_read 49 = .ok (.iadd, 1) := by decide +kernel
theorem dX10_read_50 : decode cX10_read 50 = .ok (.laload, 1) := by decide +kernel
theorem dX10_read_51 : decode cX10_read 51 = .ok (.lreturn, 1) := by decide +kernel
theorem dX10_shift_0 : decode cX10_shift 0 = .ok (.aload_n 0, 1) := by decide +kernel
theorem dX10_shift_1 : decode cX10_shift 1 = .ok (.iload_n 1, 1) := by decide +kernel
theorem dX10_shift_2 : decode cX10_shift 2 = .ok (.invokevirtual 436, 3) := by decide +kernel
theorem dX10_shift_5 : decode cX10_shift 5 = .ok (.ifCond .eq 11, 3) := by decide +kernel
theorem dX10_shift_8 : decode cX10_shift 8 = .ok (.aload_n 0, 1) := by decide +kernel
theorem dX10_shift_9 : decode cX10_shift 9 = .ok (.iload_n 3, 1) := by decide +kernel
theorem dX10_shift_10 : decode cX10_shift 10 = .ok (.invokevirtual 436, 3) := by decide +kernel
theorem dX10_shift_13 : decode cX10_shift 13 = .ok (.ifCond .ne 5, 3) := by decide +kernel
theorem dX10_shift_16 : decode cX10_shift 16 = .ok (.iconst (-1), 1) := by decide +kernel
theorem dX10_shift_17 : decode cX10_shift 17 = .ok (.ireturn, 1) := by decide +kernel
theorem dX10_shift_18 : decode cX10_shift 18 = .ok (.aload_n 0, 1) := by decide +kernel
theorem dX10_shift_19 : decode cX10_shift 19 = .ok (.getfield 232, 3) := by decide +kernel
theorem dX10_shift_22 : decode cX10_shift 22 = .ok (.iload_n 1, 1) := by decide +kernel
theorem dX10_shift_23 : decode cX10_shift 23 = .ok (.iaload, 1) := by decide +kernel
theorem dX10_shift_24 : decode cX10_shift 24 = .ok (.ifCond .lt 12, 3) := by decide +kernel
theorem dX10_shift_27 : decode cX10_shift 27 = .ok (.aload_n 0, 1) := by decide +kernel
theorem dX10_shift_28 : decode cX10_shift 28 = .ok (.getfield 232, 3) := by decide +kernel
theorem dX10_shift_31 : decode cX10_shift 31 = .ok (.iload_n 3, 1) := by decide +kernel
theorem dX10_shift_32 : decode cX10_shift 32 = .ok (.iaload, 1) := by decide +kernel
theorem dX10_shift_33 : decode cX10_shift 33 = .ok (.ifCond .ge 6, 3) := by decide +kernel
theorem dX10_shift_36 : decode cX10_shift 36 = .ok (.bipush (-11), 2) := by decide +kernel
theorem dX10_shift_38 : decode cX10_shift 38 = .ok (.ireturn, 1) := by decide +kernel
theorem dX10_shift_39 : decode cX10_shift 39 = .ok (.aload_n 0, 1) := by decide +kernel
theorem dX10_shift_40 : decode cX10_shift 40 = .ok (.getfield 232, 3) := by decide +kernel
theorem dX10_shift_43 : decode cX10_shift 43 = .ok (.iload_n 1, 1) := by decide +kernel
theorem dX10_shift_44 : decode cX10_shift 44 = .ok (.iaload, 1) := by decide +kernel
theorem dX10_shift_45 : decode cX10_shift 45 = .ok (.aload_n 0, 1) := by decide +kernel
theorem dX10_shift_46 : decode cX10_shift 46 = .ok (.getfield 232, 3) := by decide +kernel
theorem dX10_shift_49 : decode cX10_shift 49 = .ok (.iload_n 3, 1) := by decide +kernel
theorem dX10_shift_50 : decode cX10_shift 50 = .ok (.iaload, 1) := by decide +kernel
theorem dX10_shift_51 : decode cX10_shift 51 = .ok (.if_icmp .eq 6, 3) := by decide +kernel
theorem dX10_shift_54 : decode cX10_shift 54 = .ok (.bipush (-12), 2) := by decide +kernel
theorem dX10_shift_56 : decode cX10_shift 56 = .ok (.ireturn, 1) := by decide +kernel
theorem dX10_shift_57 : decode cX10_shift 57 = .ok (.iload 5, 2) := by decide +kernel
theorem dX10_shift_59 : decode cX10_shift 59 = .ok (.ifCond .lt 39, 3) := by decide +kernel
theorem dX10_shift_62 : decode cX10_shift 62 = .ok (.iload_n 2, 1) := by decide +kernel
theorem dX10_shift_63 : decode cX10_shift 63 = .ok (.ifCond .lt 35, 3) := by decide +kernel
theorem dX10_shift_66 : decode cX10_shift 66 = .ok (.iload 4, 2) := by decide +kernel
theorem dX10_shift_68 : decode cX10_shift 68 = .ok (.ifCond .lt 30, 3) := by decide +kernel
theorem dX10_shift_71 : decode cX10_shift 71 = .ok (.iload_n 2, 1) := by decide +kernel
theorem dX10_shift_72 : decode cX10_shift 72 = .ok (.aload_n 0, 1) := by decide +kernel
theorem dX10_shift_73 : decode cX10_shift 73 = .ok (.getfield 235, 3) := by decide +kernel
theorem dX10_shift_76 : decode cX10_shift 76 = .ok (.iload_n 1, 1) := by decide +kernel
theorem dX10_shift_77 : decode cX10_shift 77 = .ok (.iaload, 1) := by decide +kernel
theorem dX10_shift_78 : decode cX10_shift 78 = .ok (.iload 5, 2) := by decide +kernel
theorem dX10_shift_80 : decode cX10_shift 80 = .ok (.isub, 1) := by decide +kernel
theorem dX10_shift_81 : decode cX10_shift 81 = .ok (.if_icmp .gt 17, 3) := by decide +kernel
theorem dX10_shift_84 : decode cX10_shift 84 = .ok (.iload 4, 2) := by decide +kernel
theorem dX10_shift_86 : decode cX10_shift 86 = .ok (.aload_n 0, 1) := by decide +kernel
theorem dX10_shift_87 : decode cX10_shift 87 = .ok (.getfield 235, 3) := by decide +kernel
theorem dX10_shift_90 : decode cX10_shift 90 = .ok (.iload_n 3, 1) := by decide +kernel
theorem dX10_shift_91 : decode cX10_shift 91 = .ok (.iaload, 1) := by decide +kernel
theorem dX10_shift_92 : decode cX10_shift 92 = .ok (.iload 5, 2) := by decide +kernel
theorem dX10_shift_94 : decode cX10_shift 94 = .ok (.isub, 1) := by decide +kernel
theorem dX10_shift_95 : decode cX10_shift 95 = .ok (.if_icmp .le 6, 3) := by decide +kernel
theorem dX10_shift_98 : decode cX10_shift 98 = .ok (.bipush (-13), 2) := by decide +kernel
theorem dX10_shift_100 : decode cX10_shift 100 = .ok (.ireturn, 1) := by decide +kernel
theorem dX10_shift_101 : decode cX10_shift 101 = .ok (.iconst 0, 1) := by decide +kernel
theorem dX10_shift_102 : decode cX10_shift 102 = .ok (.istore 6, 2) := by decide +kernel
theorem dX10_shift_104 : decode cX10_shift 104 = .ok (.iload 6, 2) := by decide +kernel
theorem dX10_shift_106 : decode cX10_shift 106 = .ok (.iload 5, 2) := by decide +kernel
theorem dX10_shift_108 : decode cX10_shift 108 = .ok (.if_icmp .ge 30, 3) := by decide +kernel
theorem dX10_shift_111 : decode cX10_shift 111 = .ok (.aload_n 0, 1) := by decide +kernel
theorem dX10_shift_112 : decode cX10_shift 112 = .ok (.getfield 242, 3) := by decide +kernel
theorem dX10_shift_115 : decode cX10_shift 115 = .ok (.iload 6, 2) := by decide +kernel
theorem dX10_shift_117 : decode cX10_shift 117 = .ok (.aload_n 0, 1) := by decide +kernel
theorem dX10_shift_118 : decode cX10_shift 118 = .ok (.getfield 238, 3) := by decide +kernel
theorem dX10_shift_121 : decode cX10_shift 121 = .ok (.bipush 60, 2) := by decide +kernel
theorem dX10_shift_123 : decode cX10_shift 123 = .ok (.iload_n 1, 1) := by decide +kernel
theorem dX10_shift_124 : decode cX10_shift 124 = .ok (.imul, 1) := by decide +kernel
theorem dX10_shift_125 : decode cX10_shift 125 = .ok (.iload_n 2, 1) := by decide +kernel
theorem dX10_shift_126 : decode cX10_shift 126 = .ok (.iadd, 1) := by decide +kernel
theorem dX10_shift_127 : decode cX10_shift 127 = .ok (.iload 6, 2) := by decide +kernel
theorem dX10_shift_129 : decode cX10_shift 129 = .ok (.iadd, 1) := by decide +kernel
theorem dX10_shift_130 : decode cX10_shift 130 = .ok (.laload, 1) := by decide +kernel
theorem dX10_shift_131 : decode cX10_shift 131 = .ok (.lastore, 1) := by decide +kernel
theorem dX10_shift_132 : decode cX10_shift 132 = .ok (.iinc 6 1, 3) := by decide +kernel
theorem dX10_shift_135 : decode cX10_shift 135 = .ok (.goto (-31), 3) := by decide +kernel
theorem dX10_shift_138 : decode cX10_shift 138 = .ok (.iconst 0, 1) := by decide +kernel
theorem dX10_shift_139 : decode cX10_shift 139 = .ok (.istore 6, 2) := by decide +kernel
theorem dX10_shift_141 : decode cX10_shift 141 = .ok (.iload 6, 2) := by decide +kernel
theorem dX10_shift_143 : decode cX10_shift 143 = .ok (.iload 5, 2) := by decide +kernel
theorem dX10_shift_145 : decode cX10_shift 145 = .ok (.if_icmp .ge 31, 3) := by decide +kernel
theorem dX10_shift_148 : decode cX10_shift 148 = .ok (.aload_n 0, 1) := by decide +kernel
theorem dX10_shift_149 : decode cX10_shift 149 = .ok (.getfield 238, 3) := by decide +kernel
theorem dX10_shift_152 : decode cX10_shift 152 = .ok (.bipush 60, 2) := by decide +kernel
theorem dX10_shift_154 : decode cX10_shift 154 = .ok (.iload_n 3, 1) := by decide +kernel
theorem dX10_shift_155 : decode cX10_shift 155 = .ok (.imul, 1) := by decide +kernel
theorem dX10_shift_156 : decode cX10_shift 156 = .ok (.iload 4, 2) := by decide +kernel
theorem dX10_shift_158 : decode cX10_shift 158 = .ok (.iadd, 1) := by decide +kernel
theorem dX10_shift_159 : decode cX10_shift 159 = .ok (.iload 6, 2) := by decide +kernel
theorem dX10_shift_161 : decode cX10_shift 161 = .ok (.iadd, 1) := by decide +kernel
theorem dX10_shift_162 : decode cX10_shift 162 = .ok (.aload_n 0, 1) := by decide +kernel
theorem dX10_shift_163 : decode cX10_shift 163 = .ok (.getfield 242, 3) := by decide +kernel
theorem dX10_shift_166 : decode cX10_shift 166 = .ok (.iload 6, 2) := by decide +kernel
theorem dX10_shift_168 : decode cX10_shift 168 = .ok (.laload, 1) := by decide +kernel
theorem dX10_shift_169 : decode cX10_shift 169 = .ok (.lastore, 1) := by decide +kernel
theorem dX10_shift_170 : decode cX10_shift 170 = .ok (.iinc 6 1, 3) := by decide +kernel
theorem dX10_shift_173 : decode cX10_shift 173 = .ok (.goto (-32), 3) := by decide +kernel
theorem dX10_shift_176 : decode cX10_shift 176 = .ok (.iload 5, 2) := by decide +kernel
theorem dX10_shift_178 : decode cX10_shift 178 = .ok (.ireturn, 1) := by decide +kernel
