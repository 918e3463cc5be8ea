theorem dX11_init_15 : decode cX11_init 15 = .ok (.newarray .int, 2) := by decide +kernel
theorem dX11_init_17 : decode cX11_init 17 = .ok (.putfield 13, 3) := by decide +kernel
theorem dX11_init_20 : decode cX11_init 20 = .ok (.aload_n 0, 1) := by decide +kernel
theorem dX11_init_21 : decode cX11_init 21 = .ok (.bipush 32, 2) := by decide +kernel
theorem dX11_init_23 : decode cX11_init 23 = .ok (.newarray .int, 2) := by decide +kernel
theorem dX11_init_25 : decode cX11_init 25 = .ok (.putfield 16, 3) := by decide +kernel
theorem dX11_init_28 : decode cX11_init 28 = .ok (.aload_n 0, 1) := by decide +kernel
theorem dX11_init_29 : decode cX11_init 29 = .ok (.bipush 32, 2) := by decide +kernel
theorem dX11_init_31 : decode cX11_init 31 = .ok (.newarray .int, 2) := by decide +kernel
theorem dX11_init_33 : decode cX11_init 33 = .ok (.putfield 19, 3) := by decide +kernel
theorem dX11_init_36 : decode cX11_init 36 = .ok (.aload_n 0, 1) := by decide +kernel
theorem dX11_init_37 : decode cX11_init 37 = .ok (.bipush 32, 2) := by decide +kernel
theorem dX11_init_39 : decode cX11_init 39 = .ok (.newarray .int, 2) := by decide +kernel
theorem dX11_init_41 : decode cX11_init 41 = .ok (.putfield 22, 3) := by decide +kernel
theorem dX11_init_44 : decode cX11_init 44 = .ok (.aload_n 0, 1) := by decide +kernel
theorem dX11_init_45 : decode cX11_init 45 = .ok (.bipush 32, 2) := by decide +kernel
theorem dX11_init_47 : decode cX11_init 47 = .ok (.newarray .boolean, 2) := by decide +kernel
theorem dX11_init_49 : decode cX11_init 49 = .ok (.putfield 25, 3) := by decide +kernel
theorem dX11_init_52 : decode cX11_init 52 = .ok (.aload_n 0, 1) := by decide +kernel
theorem dX11_init_53 : decode cX11_init 53 = .ok (.bipush 20, 2) := by decide +kernel
theorem dX11_init_55 : decode cX11_init 55 = .ok (.newarray .int, 2) := by decide +kernel
theorem dX11_init_57 : decode cX11_init 57 = .ok (.putfield 29, 3) := by decide +kernel
theorem dX11_init_60 : decode cX11_init 60 = .ok (.aload_n 0, 1) := by decide +kernel
theorem dX11_init_61 : decode cX11_init 61 = .ok (.bipush 120, 2) := by decide +kernel
theorem dX11_init_63 : decode cX11_init 63 = .ok (.newarray .int, 2) := by decide +kernel
theorem dX11_init_65 : decode cX11_init 65 = .ok (.putfield 32, 3) := by decide +kernel
theorem dX11_init_68 : decode cX11_init 68 = .ok (.aload_n 0, 1) := by decide +kernel
theorem dX11_init_69 : decode cX11_init 69 = .ok (.bipush 120, 2) := by decide +kernel
theorem dX11_init_71 : decode cX11_init 71 = .ok (.newarray .int, 2) := by decide +kernel
theorem dX11_init_73 : decode cX11_init 73 = .ok (.putfield 35, 3) := by decide +kernel
theorem dX11_init_76 : decode cX11_init 76 = .ok (.aload_n 0, 1) := by decide +kernel
theorem dX11_init_77 : decode cX11_init 77 = .ok (.sipush 480, 3) := by decide +kernel
theorem dX11_init_80 : decode cX11_init 80 = .ok (.newarray .int, 2) := by decide +kernel
theorem dX11_init_82 : decode cX11_init 82 = .ok (.putfield 38, 3) := by decide +kernel
theorem dX11_init_85 : decode cX11_init 85 = .ok (.aload_n 0, 1) := by decide +kernel
theorem dX11_init_86 : decode cX11_init 86 = .ok (.bipush 120, 2) := by decide +kernel
theorem dX11_init_88 : decode cX11_init 88 = .ok (.newarray .int, 2) := by decide +kernel
theorem dX11_init_90 : decode cX11_init 90 = .ok (.putfield 41, 3) := by decide +kernel
theorem dX11_init_93 : decode cX11_init 93 = .ok (.aload_n 0, 1) := by decide +kernel
theorem dX11_init_94 : decode cX11_init 94 = .ok (.bipush 120, 2) := by decide +kernel
theorem dX11_init_96 : decode cX11_init 96 = .ok (.newarray .int, 2) := by decide +kernel
theorem dX11_init_98 : decode cX11_init 98 = .ok (.putfield 44, 3) := by decide +kernel
theorem dX11_init_101 : decode cX11_init 101 = .ok (.aload_n 0, 1) := by decide +kernel
theorem dX11_init_102 : decode cX11_init 102 = .ok (.bipush 120, 2) := by decide +kernel
theorem dX11_init_104 : decode cX11_init 104 = .ok (.newarray .int, 2) := by decide +kernel
theorem dX11_init_106 : decode cX11_init 106 = .ok (.putfield 47, 3) := by decide +kernel
theorem dX11_init_109 : decode cX11_init 109 = .ok (.aload_n 0, 1) := by decide +kernel
theorem dX11_init_110 : decode cX11_init 110 = .ok (.bipush 120, 2) := by decide +kernel
theorem dX11_init_112 : decode cX11_init 112 = .ok (.newarray .int, 2) := by decide +kernel
theorem dX11_init_114 : decode cX11_init 114 = .ok (.putfield 50, 3) := by decide +kernel
theorem dX11_init_117 : decode cX11_init 117 = .ok (.aload_n 0, 1) := by decide +kernel
theorem dX11_init_118 : decode cX11_init 118 = .ok (.sipush 480, 3) := by decide +kernel
theorem dX11_init_121 : decode cX11_init 121 = .ok (.newarray .int, 2) := by decide +kernel
theorem dX11_init_123 : decode cX11_init 123 = .ok (.putfield 53, 3) := by decide +kernel
theorem dX11_init_126 : decode cX11_init 126 = .ok (.aload_n 0, 1) := by decide +kernel
theorem dX11_init_127 : decode cX11_init 127 = .ok (.sipush 10000, 3) := by decide +kernel
theorem dX11_init_130 : decode cX11_init 130 = .ok (.newarray .boolean, 2) := by decide +kernel
theorem dX11_init_132 : decode cX11_init 132 = .ok (.putfield 56, 3) := by decide +kernel
theorem dX11_init_135 : decode cX11_init 135 = .ok (.aload_n 0, 1) := by decide +kernel
theorem dX11_init_136 : decode cX11_init 136 = .ok (.bipush 7, 2) := by decide +kernel
theorem dX11_init_138 : decode cX11_init 138 = .ok (.newarray .boolean, 2) := by decide +kernel
theorem dX11_init_140 : decode cX11_init 140 = .ok (.putfield 59, 3) := by decide +kernel
theorem dX11_init_143 : decode cX11_init 143 = .ok (.aload_n 0, 1) := by decide +kernel
theorem dX11_init_144 : decode cX11_init 144 = .ok (.bipush 7, 2) := by decide +kernel
theorem dX11_init_146 : decode cX11_init 146 = .ok (.newarray .long, 2) := by decide +kernel
theorem dX11_init_148 : decode cX11_init 148 = .ok (.putfield 62, 3) := by decide +kernel
theorem dX11_init_151 : decode cX11_init 151 = .ok (.aload_n 0, 1) := by decide +kernel
theorem dX11_init_152 : decode cX11_init 152 = .ok (.bipush 20, 2) := by decide +kernel
theorem dX11_init_154 : decode cX11_init 154 = .ok (.newarray .int, 2) := by decide +kernel
theorem dX11_init_156 : decode cX11_init 156 = .ok (.putfield 66, 3) := by decide +kernel
theorem dX11_init_159 : decode cX11_init 159 = .ok (.aload_n 0, 1) := by decide +kernel
theorem dX11_init_160 : decode cX11_init 160 = .ok (.bipush 60, 2) := by decide +kernel
theorem dX11_init_162 : decode cX11_init 162 = .ok (.newarray .long, 2) := by decide +kernel
theorem dX11_init_164 : decode cX11_init 164 = .ok (.putfield 69, 3) := by decide +kernel
theorem dX11_init_167 : decode cX11_init 167 = .ok (.aload_n 0, 1) := by decide +kernel
theorem dX11_init_168 : decode cX11_init 168 = .ok (.iconst 4, 1) := by decide +kernel
theorem dX11_init_169 : decode cX11_init 169 = .ok (.newarray .long, 2) := by decide +kernel
theorem dX11_init_171 : decode cX11_init 171 = .ok (.putfield 72, 3) := by decide +kernel
theorem dX11_init_174 : decode cX11_init 174 = .ok (.aload_n 0, 1) := by decide +kernel
theorem dX11_init_175 : decode cX11_init 175 = .ok (.bipush 49, 2) := by decide +kernel
theorem dX11_init_177 : decode cX11_init 177 = .ok (.newarray .int, 2) := by decide +kernel
theorem dX11_init_179 : decode cX11_init 179 = .ok (.putfield 75, 3) := by decide +kernel
theorem dX11_init_182 : decode cX11_init 182 = .ok (.aload_n 0, 1) := by decide +kernel
theorem dX11_init_183 : decode cX11_init 183 = .ok (.bipush 49, 2) := by decide +kernel
theorem dX11_init_185 : decode cX11_init 185 = .ok (.newarray .int, 2) := by decide +kernel
theorem dX11_init_187 : decode cX11_init 187 = .ok (.putfield 78, 3) := by decide +kernel
theorem dX11_init_190 : decode cX11_init 190 = .ok (.aload_n 0, 1) := by decide +kernel
theorem dX11_init_191 : decode cX11_init 191 = .ok (.sipush 294, 3) := by decide +kernel
theorem dX11_init_194 : decode cX11_init 194 = .ok (.newarray .int, 2) := by decide +kernel
theorem dX11_init_196 : decode cX11_init 196 = .ok (.putfield 81, 3) := by decide +kernel
theorem dX11_init_199 : decode cX11_init 199 = .ok (.aload_n 0, 1) := by decide +kernel
theorem dX11_init_200 : decode cX11_init 200 = .ok (.bipush 49, 2) := by decide +kernel
theorem dX11_init_202 : decode cX11_init 202 = .ok (.newarray .int, 2) := by decide +kernel
theorem dX11_init_204 : decode cX11_init 204 = .ok (.putfield 84, 3) := by decide +kernel
theorem dX11_init_207 : decode cX11_init 207 = .ok (.aload_n 0, 1) := by decide +kernel
theorem dX11_init_208 : decode cX11_init 208 = .ok (.sipush 294, 3) := by decide +kernel
theorem dX11_init_211 : decode cX11_init 211 = .ok (.newarray .int, 2) := by decide +kernel
theorem dX11_init_213 : decode cX11_init 213 = .ok (.putfield 87, 3) := by decide +kernel
theorem dX11_init_216 : decode cX11_init 216 = .ok (.aload_n 0, 1) := by decide +kernel
theorem dX11_init_217 : decode cX11_init 217 = .ok (.iconst 4, 1) := by decide +kernel
theorem dX11_init_218 : decode cX11_init 218 = .ok (.newarray .int, 2) := by decide +kernel
theorem dX11_init_220 : decode cX11_init 220 = .ok (.putfield 90, 3) := by decide +kernel
theorem dX11_init_223 : decode cX11_init 223 = .ok (.aload_n 0, 1) := by decide +kernel
theorem dX11_init_224 : decode cX11_init 224 = .ok (.iconst 4, 1) := by decide +kernel
theorem dX11_init_225 : decode cX11_init 225 = .ok (.newarray .int, 2) := by decide +kernel
theorem dX11_init_227 : decode cX11_init 227 = .ok (.putfield 93, 3) := by decide +kernel
theorem dX11_init_230 : decode cX11_init 230 = .ok (.aload_n 0, 1) := by decide +kernel
theorem dX11_init_231 : decode cX11_init 231 = .ok (.iconst 4, 1) := by decide +kernel
theorem dX11_init_232 : decode cX11_init 232 = .ok (.newarray .int, 2) := by decide +kernel
theorem dX11_init_234 : decode cX11_init 234 = .ok (.putfield 96, 3) := by decide +kernel
theorem dX11_init_237 : decode cX11_init 237 = .ok (.aload_n 0, 1) := by decide +kernel
theorem dX11_init_238 : decode cX11_init 238 = .ok (.bipush 100, 2) := by decide +kernel
theorem dX11_init_240 : decode cX11_init 240 = .ok (.newarray .int, 2) := by decide +kernel
theorem dX11_init_242 : decode cX11_init 242 = .ok (.putfield 99, 3) := by decide +kernel
theorem dX11_init_245 : decode cX11_init 245 = .ok (.aload_n 0, 1) := by decide +kernel
theorem dX11_init_246 : decode cX11_init 246 = .ok (.sipush 1000, 3) := by decide +kernel
theorem dX11_init_249 : decode cX11_init 249 = .ok (.newarray .int, 2) := by decide +kernel
theorem dX11_init_251 : decode cX11_init 251 = .ok (.putfield 102, 3) := by decide +kernel
theorem dX11_init_254 : decode cX11_init 254 = .ok (.aload_n 0, 1) := by decide +kernel
theorem dX11_init_255 : decode cX11_init 255 = .ok (.bipush 100, 2) := by decide +kernel
theorem dX11_init_257 : decode cX11_init 257 = .ok (.newarray .int, 2) := by decide +kernel
theorem dX11_init_259 : decode cX11_init 259 = .ok (.putfield 105, 3) := by decide +kernel
theorem dX11_init_262 : decode cX11_init 262 = .ok (.aload_n 0, 1) := by decide +kernel
theorem dX11_init_263 : decode cX11_init 263 = .ok (.bipush 10, 2) := by decide +kernel
theorem dX11_init_265 : decode cX11_init 265 = .ok (.newarray .int, 2) := by decide +kernel
theorem dX11_init_267 : decode cX11_init 267 = .ok (.putfield 108, 3) := by decide +kernel
theorem dX11_init_270 : decode cX11_init 270 = .ok (.aload_n 0, 1) := by decide +kernel
theorem dX11_init_271 : decode cX11_init 271 = .ok (.bipush 11, 2) := by decide +kernel
theorem dX11_init_273 : decode cX11_init 273 = .ok (.newarray .int, 2) := by decide +kernel
theorem dX11_init_275 : decode cX11_init 275 = .ok (.putfield 111, 3) := by decide +kernel
theorem dX11_init_278 : decode cX11_init 278 = .ok (.aload_n 0, 1) := by decide +kernel
theorem dX11_init_279 : decode cX11_init 279 = .ok (.bipush 44, 2) := by decide +kernel
theorem dX11_init_281 : decode cX11_init 281 = .ok (.newarray .int, 2) := by decide +kernel
theorem dX11_init_283 : decode cX11_init 283 = .ok (.putfield 114, 3) := by decide +kernel
theorem dX11_init_286 : decode cX11_init 286 = .ok (.aload_n 0, 1) := by decide +kernel
theorem dX11_init_287 : decode cX11_init 287 = .ok (.iconst 4, 1) := by decide +kernel
theorem dX11_init_288 : decode cX11_init 288 = .ok (.newarray .long, 2) := by decide +kernel
theorem dX11_init_290 : decode cX11_init 290 = .ok (.putfield 117, 3) := by decide +kernel
theorem dX11_init_293 : decode cX11_init 293 = .ok (.aload_n 0, 1) := by decide +kernel
theorem dX11_init_294 : decode cX11_init 294 = .ok (.iconst 4, 1) := by decide +kernel
theorem dX11_init_295 : decode cX11_init 295 = .ok (.newarray .long, 2) := by decide +kernel
theorem dX11_init_297 : decode cX11_init 297 = .ok (.putfield 120, 3) := by decide +kernel
theorem dX11_init_300 : decode cX11_init 300 = .ok (.aload_n 0, 1) := by decide +kernel
theorem dX11_init_301 : decode cX11_init 301 = .ok (.iconst 0, 1) := by decide +kernel
theorem dX11_init_302 : decode cX11_init 302 = .ok (.iconst 1, 1) := by decide +kernel
theorem dX11_init_303 : decode cX11_init 303 = .ok (.iconst 1, 1) := by decide +kernel
theorem dX11_init_304 : decode cX11_init 304 = .ok (.invokevirtual 123, 3) := by decide +kernel
theorem dX11_init_307 : decode cX11_init 307 = .ok (.aload_n 0, 1) := by decide +kernel
theorem dX11_init_308 : decode cX11_init 308 = .ok (.iconst 1, 1) := by decide +kernel
theorem dX11_init_309 : decode cX11_init 309 = .ok (.iconst 2, 1) := by decide +kernel
theorem dX11_init_310 : decode cX11_init 310 = .ok (.iconst 1, 1) := by decide +kernel
theorem dX11_init_311 : decode cX11_init 311 = .ok (.invokevirtual 123, 3) := by decide +kernel
theorem dX11_init_314 : decode cX11_init 314 = .ok (.aload_n 0, 1) := by decide +kernel
theorem dX11_init_315 : decode cX11_init 315 = .ok (.iconst 2, 1) := by decide +kernel
theorem dX11_init_316 : decode cX11_init 316 = .ok (.iconst 3, 1) := by decide +kernel
theorem dX11_init_317 : decode cX11_init 317 = .ok (.iconst 1, 1) := by decide +kernel
theorem dX11_init_318 : decode cX11_init 318 = .ok (.invokevirtual 123, 3) := by decide +kernel
theorem dX11_init_321 : decode cX11_init 321 = .ok (.aload_n 0, 1) := by decide +kernel
theorem dX11_init_322 : decode cX11_init 322 = .ok (.iconst 3, 1) := by decide +kernel
theorem dX11_init_323 : decode cX11_init 323 = .ok (.iconst 2, 1) := by decide +kernel
theorem dX11_init_324 : decode cX11_init 324 = .ok (.iconst 5, 1) := by decide +kernel
theorem dX11_init_325 : decode cX11_init 325 = .ok (.invokevirtual 123, 3) := by decide +kernel
theorem dX11_init_328 : decode cX11_init 328 = .ok (.aload_n 0, 1) := by decide +kernel
theorem dX11_init_329 : decode cX11_init 329 = .ok (.iconst 2, 1) := by decide +kernel
theorem dX11_init_330 : decode cX11_init 330 = .ok (.iconst 1, 1) := by decide +kernel
theorem dX11_init_331 : decode cX11_init 331 = .ok (.iconst 5, 1) := by decide +kernel
theorem dX11_init_332 : decode cX11_init 332 = .ok (.invokevirtual 123, 3) := by decide +kernel
theorem dX11_init_335 : decode cX11_init 335 = .ok (.aload_n 0, 1) := by decide +kernel
theorem dX11_init_336 : decode cX11_init 336 = .ok (.iconst 1, 1) := by decide +kernel
theorem dX11_init_337 : decode cX11_init 337 = .ok (.iconst 0, 1) := by decide +kernel
theorem dX11_init_338 : decode cX11_init 338 = .ok (.iconst 5, 1) := by decide +kernel
theorem dX11_init_339 : decode cX11_init 339 = .ok (.invokevirtual 123, 3) := by decide +kernel
theorem dX11_init_342 : decode cX11_init 342 = .ok (.aload_n 0, 1) := by decide +kernel
theorem dX11_init_343 : decode cX11_init 343 = .ok (.iconst 4, 1) := by decide +kernel
theorem dX11_init_344 : decode cX11_init 344 = .ok (.iconst 0, 1) := by decide +kernel
theorem dX11_init_345 : decode cX11_init 345 = .ok (.iconst 2, 1) := by decide +kernel
theorem dX11_init_346 : decode cX11_init 346 = .ok (.invokevirtual 123, 3) := by decide +kernel
theorem dX11_init_349 : decode cX11_init 349 = .ok (.aload_n 0, 1) := by decide +kernel
theorem dX11_init_350 : decode cX11_init 350 = .ok (.iconst 2, 1) := by decide +kernel
theorem dX11_init_351 : decode cX11_init 351 = .ok (.iconst 4, 1) := by decide +kernel
theorem dX11_init_352 : decode cX11_init 352 = .ok (.bipush 6, 2) := by decide +kernel
theorem dX11_init_354 : decode cX11_init 354 = .ok (.invokevirtual 123, 3) := by decide +kernel
theorem dX11_init_357 : decode cX11_init 357 = .ok (.aload_n 0, 1) := by decide +kernel
theorem dX11_init_358 : decode cX11_init 358 = .ok (.iconst 3, 1) := by decide +kernel
theorem dX11_init_359 : decode cX11_init 359 = .ok (.iconst 5, 1) := by decide +kernel
theorem dX11_init_360 : decode cX11_init 360 = .ok (.iconst 3, 1) := by decide +kernel
theorem dX11_init_361 : decode cX11_init 361 = .ok (.invokevirtual 123, 3) := by decide +kernel
theorem dX11_init_364 : decode cX11_init 364 = .ok (.aload_n 0, 1) := by decide +kernel
theorem dX11_init_365 : decode cX11_init 365 = .ok (.iconst 5, 1) := by decide +kernel
theorem dX11_init_366 : decode cX11_init 366 = .ok (.iconst 3, 1) := by decide +kernel
theorem dX11_init_367 : decode cX11_init 367 = .ok (.bipush 6, 2) := by decide +kernel
theorem dX11_init_369 : decode cX11_init 369 = .ok (.invokevirtual 123, 3) := by decide +kernel
theorem dX11_init_372 : decode cX11_init 372 = .ok (.aload_n 0, 1) := by decide +kernel
theorem dX11_init_373 : decode cX11_init 373 = .ok (.bipush 6, 2) := by decide +kernel
theorem dX11_init_375 : decode cX11_init 375 = .ok (.iconst 1, 1) := by decide +kernel
theorem dX11_init_376 : decode cX11_init 376 = .ok (.iconst 2, 1) := by decide +kernel
theorem dX11_init_377 : decode cX11_init 377 = .ok (.invokevirtual 123, 3) := by decide +kernel
theorem dX11_init_380 : decode cX11_init 380 = .ok (.aload_n 0, 1) := by decide +kernel
theorem dX11_init_381 : decode cX11_init 381 = .ok (.iconst 1, 1) := by decide +kernel
theorem dX11_init_382 : decode cX11_init 382 = .ok (.bipush 6, 2) := by decide +kernel
theorem dX11_init_384 : decode cX11_init 384 = .ok (.iconst 5, 1) := by decide +kernel
theorem dX11_init_385 : decode cX11_init 385 = .ok (.invokevirtual 123, 3) := by decide +kernel
theorem dX11_init_388 : decode cX11_init 388 = .ok (.return_, 1) := by decide +kernel
theorem dX11_base_0 : decode cX11_base 0 = .ok (.aload_n 0, 1) := by decide +kernel
theorem dX11_base_1 : decode cX11_base 1 = .ok (.getfield 7, 3) := by decide +kernel
theorem dX11_base_4 : decode cX11_base 4 = .ok (.aload_n 0, 1) := by decide +kernel
theorem dX11_base_5 : decode cX11_base 5 = .ok (.getfield 127, 3) := by decide +kernel
theorem dX11_base_8 : decode cX11_base 8 = .ok (.iload_n 1, 1) := by decide +kernel
theorem dX11_base_9 : decode cX11_base 9 = .ok (.iastore, 1) := by decide +kernel
theorem dX11_base_10 : decode cX11_base 10 = .ok (.aload_n 0, 1) := by decide +kernel
theorem dX11_base_11 : decode cX11_base 11 = .ok (.getfield 13, 3) := by decide +kernel
theorem dX11_base_14 : decode cX11_base 14 = .ok (.aload_n 0, 1) := by decide +kernel
theorem dX11_base_15 : decode cX11_base 15 = .ok (.getfield 127, 3) := by decide +kernel
theorem dX11_base_18 : decode cX11_base 18 = .ok (.iload_n 2, 1) := by decide +kernel
theorem dX11_base_19 : decode cX11_base 19 = .ok (.iastore, 1) := by decide +kernel
theorem dX11_base_20 : decode cX11_base 20 = .ok (.aload_n 0, 1) := by decide +kernel
theorem dX11_base_21 : decode cX11_base 21 = .ok (.getfield 16, 3) := by decide +kernel
theorem dX11_base_24 : decode cX11_base 24 = .ok (.aload_n 0, 1) := by decide +kernel
theorem dX11_base_25 : decode cX11_base 25 = .ok (.getfield 127, 3) := by decide +kernel
theorem dX11_base_28 : decode cX11_base 28 = .ok (.iload_n 3, 1) := by decide +kernel
theorem dX11_base_29 : decode cX11_base 29 = .ok (.iastore, 1) := by decide +kernel
theorem dX11_base_30 : decode cX11_base 30 = .ok (.aload_n 0, 1) := by decide +kernel
theorem dX11_base_31 : decode cX11_base 31 = .ok (.getfield 19, 3) := by decide +kernel
theorem dX11_base_34 : decode cX11_base 34 = .ok (.aload_n 0, 1) := by decide +kernel
theorem dX11_base_35 : decode cX11_base 35 = .ok (.getfield 127, 3) := by decide +kernel
theorem dX11_base_38 : decode cX11_base 38 = .ok (.iconst 1, 1) := by decide +kernel
theorem dX11_base_39 : decode cX11_base 39 = .ok (.iastore, 1) := by decide +kernel
theorem dX11_base_40 : decode cX11_base 40 = .ok (.aload_n 0, 1) := by decide +kernel
theorem dX11_base_41 : decode cX11_base 41 = .ok (.getfield 22, 3) := by decide +kernel
theorem dX11_base_44 : decode cX11_base 44 = .ok (.aload_n 0, 1) := by decide +kernel
theorem dX11_base_45 : decode cX11_base 45 = .ok (.getfield 127, 3) := by decide +kernel
theorem dX11_base_48 : decode cX11_base 48 = .ok (.iconst 0, 1) := by decide +kernel
theorem dX11_base_49 : decode cX11_base 49 = .ok (.iastore, 1) := by decide +kernel
theorem dX11_base_50 : decode cX11_base 50 = .ok (.aload_n 0, 1) := by decide +kernel
theorem dX11_base_51 : decode cX11_base 51 = .ok (.getfield 25, 3) := by decide +kernel
theorem dX11_base_54 : decode cX11_base 54 = .ok (.aload_n 0, 1) := by decide +kernel
theorem dX11_base_55 : decode cX11_base 55 = .ok (.getfield 127, 3) := by decide +kernel
theorem dX11_base_58 : decode cX11_base 58 = .ok (.iconst 1, 1) := by decide +kernel
theorem dX11_base_59 : decode cX11_base 59 = .ok (.bastore, 1) := by decide +kernel
theorem dX11_base_60 : decode cX11_base 60 = .ok (.aload_n 0, 1) := by decide +kernel
theorem dX11_base_61 : decode cX11_base 61 = .ok (.dup, 1) := by decide +kernel
theorem dX11_base_62 : decode cX11_base 62 = .ok (.getfield 127, 3) := by decide +kernel
theorem dX11_base_65 : decode cX11_base 65 = .ok (.iconst 1, 1) := by decide +kernel
theorem dX11_base_66 : decode cX11_base 66 = .ok (.iadd, 1) := by decide +kernel
theorem dX11_base_67 : decode cX11_base 67 = .ok (.putfield 127, 3) := by decide +kernel
theorem dX11_base_70 : decode cX11_base 70 = .ok (.return_, 1) := by decide +kernel
theorem dX11_in_0 : decode cX11_in 0 = .ok (.lload_n 0, 1) := by decide +kernel
theorem dX11_in_1 : decode cX11_in 1 = .ok (.lload_n 2, 1) := by decide +kernel
theorem dX11_in_2 : decode cX11_in 2 = .ok (.lcmp, 1) := by decide +kernel
theorem dX11_in_3 : decode cX11_in 3 = .ok (.ifCond .lt 14, 3) := by decide +kernel
theorem dX11_in_6 : decode cX11_in 6 = .ok (.lload_n 0, 1) := by decide +kernel
theorem dX11_in_7 : decode cX11_in 7 = .ok (.lload 4, 2) := by decide +kernel
theorem dX11_in_9 : decode cX11_in 9 = .ok (.lcmp, 1) := by decide +kernel
theorem dX11_in_10 : decode cX11_in 10 = .ok (.ifCond .gt 7, 3) := by decide +kernel
theorem dX11_in_13 : decode cX11_in 13 = .ok (.iconst 1, 1) := by decide +kernel
theorem dX11_in_14 : decode cX11_in 14 = .ok (.goto 4, 3) := by decide +kernel
theorem dX11_in_17 : decode cX11_in 17 = .ok (.iconst 0, 1) := by decide +kernel
theorem dX11_in_18 : decode cX11_in 18 = .ok (.ireturn, 1) := by decide +kernel
theorem dX11_isOf_0 : decode cX11_isOf 0 = .ok (.iload_n 0, 1) := by decide +kernel
theorem dX11_isOf_1 : decode cX11_isOf 1 = .ok (.tableswitch 92 0 6 #[43, 54, 65, 92, 76, 92, 83], 43) := by decide +kernel
theorem dX11_isOf_44 : decode cX11_isOf 44 = .ok (.lload_n 1, 1) := by decide +kernel
theorem dX11_isOf_45 : decode cX11_isOf 45 = .ok (.ldc2_w 134, 3) := by decide +kernel
theorem dX11_isOf_48 : decode cX11_isOf 48 = .ok (.ldc2_w 136, 3) := by decide +kernel
theorem dX11_isOf_51 : decode cX11_isOf 51 = .ok (.invokestatic 138, 3) := by decide +kernel
theorem dX11_isOf_54 : decode cX11_isOf 54 = .ok (.ireturn, 1) := by decide +kernel
theorem dX11_isOf_55 : decode cX11_isOf 55 = .ok (.lload_n 1, 1) := by decide +kernel
theorem dX11_isOf_56 : decode cX11_isOf 56 = .ok (.ldc2_w 142, 3) := by decide +kernel
theorem dX11_isOf_59 : decode cX11_isOf 59 = .ok (.ldc2_w 144, 3) := by decide +kernel
theorem dX11_isOf_62 : decode cX11_isOf 62 = .ok (.invokestatic 138, 3) := by decide +kernel
theorem dX11_isOf_65 : decode cX11_isOf 65 = .ok (.ireturn, 1) := by decide +kernel
theorem dX11_isOf_66 : decode cX11_isOf 66 = .ok (.lload_n 1, 1) := by decide +kernel
theorem dX11_isOf_67 : decode cX11_isOf 67 = .ok (.ldc2_w 146, 3) := by decide +kernel
theorem dX11_isOf_70 : decode cX11_isOf 70 = .ok (.ldc2_w 148, 3) := by decide +kernel
theorem dX11_isOf_73 : decode cX11_isOf 73 = .ok (.invokestatic 138, 3) := by decide +kernel
theorem dX11_isOf_76 : decode cX11_isOf 76 = .ok (.ireturn, 1) := by decide +kernel
theorem dX11_isOf_77 : decode cX11_isOf 77 = .ok (.lload_n 1, 1) := by decide +kernel
theorem dX11_isOf_78 : decode cX11_isOf 78 = .ok (.lconst 0, 1) := by decide +kernel
theorem dX11_isOf_79 : decode cX11_isOf 79 = .ok (.lconst 1, 1) := by decide +kernel
theorem dX11_isOf_80 : decode cX11_isOf 80 = .ok (.invokestatic 138, 3) := by decide +kernel
theorem dX11_isOf_83 : decode cX11_isOf 83 = .ok (.ireturn, 1) := by decide +kernel
theorem dX11_isOf_84 : decode cX11_isOf 84 = .ok (.lload_n 1, 1) := by decide +kernel
theorem dX11_isOf_85 : decode cX11_isOf 85 = .ok (.lconst 0, 1) := by decide +kernel
theorem dX11_isOf_86 : decode cX11_isOf 86 = .ok (.ldc2_w 136, 3) := by decide +kernel
theorem dX11_isOf_89 : decode cX11_isOf 89 = .ok (.invokestatic 138, 3) := by decide +kernel
theorem dX11_isOf_92 : decode cX11_isOf 92 = .ok (.ireturn, 1) := by decide +kernel
theorem dX11_isOf_93 : decode cX11_isOf 93 = .ok (.iconst 1, 1) := by decide +kernel
theorem dX11_isOf_94 : decode cX11_isOf 94 = .ok (.ireturn, 1) := by decide +kernel
theorem dX11_rule_0 : decode cX11_rule 0 = .ok (.aload_n 0, 1) := by decide +kernel
theorem dX11_rule_1 : decode cX11_rule 1 = .ok (.iconst 0, 1) := by decide +kernel
theorem dX11_rule_2 : decode cX11_rule 2 = .ok (.putfield 131, 3) := by decide +kernel
theorem dX11_rule_5 : decode cX11_rule 5 = .ok (.iload_n 1, 1) := by decide +kernel
theorem dX11_rule_6 : decode cX11_rule 6 = .ok (.i2l, 1) := by decide +kernel
theorem dX11_rule_7 : decode cX11_rule 7 = .ok (.lconst 0, 1) := by decide +kernel
theorem dX11_rule_8 : decode cX11_rule 8 = .ok (.ldc2_w 150, 3) := by decide +kernel
theorem dX11_rule_11 : decode cX11_rule 11 = .ok (.invokestatic 138, 3) := by decide +kernel
theorem dX11_rule_14 : decode cX11_rule 14 = .ok (.ifCond .eq 69, 3) := by decide +kernel
theorem dX11_rule_17 : decode cX11_rule 17 = .ok (.iload_n 2, 1) := by decide +kernel
theorem dX11_rule_18 : decode cX11_rule 18 = .ok (.i2l, 1) := by decide +kernel
theorem dX11_rule_19 : decode cX11_rule 19 = .ok (.lconst 0, 1) := by decide +kernel
theorem dX11_rule_20 : decode cX11_rule 20 = .ok (.ldc2_w 150, 3) := by decide +kernel
theorem dX11_rule_23 : decode cX11_rule 23 = .ok (.invokestatic 138, 3) := by decide +kernel
theorem dX11_rule_26 : decode cX11_rule 26 = .ok (.ifCond .eq 57, 3) := by decide +kernel
theorem dX11_rule_29 : decode cX11_rule 29 = .ok (.iload_n 1, 1) := by decide +kernel
theorem dX11_rule_30 : decode cX11_rule 30 = .ok (.iload_n 2, 1) := by decide +kernel
theorem dX11_rule_31 : decode cX11_rule 31 = .ok (.if_icmp .eq 52, 3) := by decide +kernel
theorem dX11_rule_34 : decode cX11_rule 34 = .ok (.iload_n 3, 1) := by decide +kernel
theorem dX11_rule_35 : decode cX11_rule 35 = .ok (.i2l, 1) := by decide +kernel
theorem dX11_rule_36 : decode cX11_rule 36 = .ok (.lconst 1, 1) := by decide +kernel
theorem dX11_rule_37 : decode cX11_rule 37 = .ok (.ldc2_w 152, 3) := by decide +kernel
theorem dX11_rule_40 : decode cX11_rule 40 = .ok (.invokestatic 138, 3) := by decide +kernel
theorem dX11_rule_43 : decode cX11_rule 43 = .ok (.ifCond .eq 40, 3) := by decide +kernel
theorem dX11_rule_46 : decode cX11_rule 46 = .ok (.iload 4, 2) := by decide +kernel
theorem dX11_rule_48 : decode cX11_rule 48 = .ok (.i2l, 1) := by decide +kernel
theorem dX11_rule_49 : decode cX11_rule 49 = .ok (.lconst 0, 1) := by decide +kernel
theorem dX11_rule_50 : decode cX11_rule 50 = .ok (.ldc2_w 154, 3) := by decide +kernel
theorem dX11_rule_53 : decode cX11_rule 53 = .ok (.invokestatic 138, 3) := by decide +kernel
theorem dX11_rule_56 : decode cX11_rule 56 = .ok (.ifCond .eq 27, 3) := by decide +kernel
theorem dX11_rule_59 : decode cX11_rule 59 = .ok (.iload 4, 2) := by decide +kernel
theorem dX11_rule_61 : decode cX11_rule 61 = .ok (.sipush 10000, 3) := by decide +kernel
theorem dX11_rule_64 : decode cX11_rule 64 = .ok (.idiv, 1) := by decide +kernel
theorem dX11_rule_65 : decode cX11_rule 65 = .ok (.sipush 2000, 3) := by decide +kernel
theorem dX11_rule_68 : decode cX11_rule 68 = .ok (.if_icmp .gt 15, 3) := by decide +kernel
theorem dX11_rule_71 : decode cX11_rule 71 = .ok (.iload 4, 2) := by decide +kernel
theorem dX11_rule_73 : decode cX11_rule 73 = .ok (.sipush 10000, 3) := by decide +kernel
theorem dX11_rule_76 : decode cX11_rule 76 = .ok (.irem, 1) := by decide +kernel
theorem dX11_rule_77 : decode cX11_rule 77 = .ok (.sipush 2000, 3) := by decide +kernel
theorem dX11_rule_80 : decode cX11_rule 80 = .ok (.if_icmp .le 6, 3) := by decide +kernel
theorem dX11_rule_83 : decode cX11_rule 83 = .ok (.bipush (-3), 2) := by decide +kernel
theorem dX11_rule_85 : decode cX11_rule 85 = .ok (.ireturn, 1) := by decide +kernel
theorem dX11_rule_86 : decode cX11_rule 86 = .ok (.aload_n 0, 1) := by decide +kernel
theorem dX11_rule_87 : decode cX11_rule 87 = .ok (.getfield 127, 3) := by decide +kernel
theorem dX11_rule_90 : decode cX11_rule 90 = .ok (.bipush 32, 2) := by decide +kernel
theorem dX11_rule_92 : decode cX11_rule 92 = .ok (.if_icmp .ne 6, 3) := by decide +kernel
theorem dX11_rule_95 : decode cX11_rule 95 = .ok (.bipush (-5), 2) := by decide +kernel
theorem dX11_rule_97 : decode cX11_rule 97 = .ok (.ireturn, 1) := by decide +kernel
theorem dX11_rule_98 : decode cX11_rule 98 = .ok (.aload_n 0, 1) := by decide +kernel
theorem dX11_rule_99 : decode cX11_rule 99 = .ok (.iload_n 1, 1) := by decide +kernel
theorem dX11_rule_100 : decode cX11_rule 100 = .ok (.iload_n 2, 1) := by decide +kernel
theorem dX11_rule_101 : decode cX11_rule 101 = .ok (.iload_n 3, 1) := by decide +kernel
theorem dX11_rule_102 : decode cX11_rule 102 = .ok (.invokevirtual 123, 3) := by decide +kernel
theorem dX11_rule_105 : decode cX11_rule 105 = .ok (.aload_n 0, 1) := by decide +kernel
theorem dX11_rule_106 : decode cX11_rule 106 = .ok (.getfield 19, 3) := by decide +kernel
theorem dX11_rule_109 : decode cX11_rule 109 = .ok (.aload_n 0, 1) := by decide +kernel
theorem dX11_rule_110 : decode cX11_rule 110 = .ok (.getfield 127, 3) := by decide +kernel
theorem dX11_rule_113 : decode cX11_rule 113 = .ok (.iconst 1, 1) := by decide +kernel
theorem dX11_rule_114 : decode cX11_rule 114 = .ok (.isub, 1) := by decide +kernel
theorem dX11_rule_115 : decode cX11_rule 115 = .ok (.iload 4, 2) := by decide +kernel
theorem dX11_rule_117 : decode cX11_rule 117 = .ok (.sipush 10000, 3) := by decide +kernel
theorem dX11_rule_120 : decode cX11_rule 120 = .ok (.idiv, 1) := by decide +kernel
theorem dX11_rule_121 : decode cX11_rule 121 = .ok (.sipush 1000, 3) := by decide +kernel
theorem dX11_rule_124 : decode cX11_rule 124 = .ok (.isub, 1) := by decide +kernel
theorem dX11_rule_125 : decode cX11_rule 125 = .ok (.iastore, 1) := by decide +kernel
theorem dX11_rule_126 : decode cX11_rule 126 = .ok (.aload_n 0, 1) := by decide +kernel
theorem dX11_rule_127 : decode cX11_rule 127 = .ok (.getfield 22, 3) := by decide +kernel
theorem dX11_rule_130 : decode cX11_rule 130 = .ok (.aload_n 0, 1) := by decide +kernel
theorem dX11_rule_131 : decode cX11_rule 131 = .ok (.getfield 127, 3) := by decide +kernel
theorem dX11_rule_134 : decode cX11_rule 134 = .ok (.iconst 1, 1) := by decide +kernel
theorem dX11_rule_135 : decode cX11_rule 135 = .ok (.isub, 1) := by decide +kernel
theorem dX11_rule_136 : decode cX11_rule 136 = .ok (.iload 4, 2) := by decide +kernel
theorem dX11_rule_138 : decode cX11_rule 138 = .ok (.sipush 10000, 3) := by decide +kernel
theorem dX11_rule_141 : decode cX11_rule 141 = .ok (.irem, 1) := by decide +kernel
theorem dX11_rule_142 : decode cX11_rule 142 = .ok (.sipush 1000, 3) := by decide +kernel
theorem dX11_rule_145 : decode cX11_rule 145 = .ok (.isub, 1) := by decide +kernel
theorem dX11_rule_146 : decode cX11_rule 146 = .ok (.iastore, 1) := by decide +kernel
theorem dX11_rule_147 : decode cX11_rule 147 = .ok (.aload_n 0, 1) := by decide +kernel
theorem dX11_rule_148 : decode cX11_rule 148 = .ok (.getfield 127, 3) := by decide +kernel
theorem dX11_rule_151 : decode cX11_rule 151 = .ok (.iconst 1, 1) := by decide +kernel
theorem dX11_rule_152 : decode cX11_rule 152 = .ok (.isub, 1) := by decide +kernel
theorem dX11_rule_153 : decode cX11_rule 153 = .ok (.ireturn, 1) := by decide +kernel
theorem dX11_drop_0 : decode cX11_drop 0 = .ok (.aload_n 0, 1) := by decide +kernel
theorem dX11_drop_1 : decode cX11_drop 1 = .ok (.iconst 0, 1) := by decide +kernel
theorem dX11_drop_2 : decode cX11_drop 2 = .ok (.putfield 131, 3) := by decide +kernel
theorem dX11_drop_5 : decode cX11_drop 5 = .ok (.iload_n 1, 1) := by decide +kernel
theorem dX11_drop_6 : decode cX11_drop 6 = .ok (.i2l, 1) := by decide +kernel
theorem dX11_drop_7 : decode cX11_drop 7 = .ok (.ldc2_w 156, 3) := by decide +kernel
theorem dX11_drop_10 : decode cX11_drop 10 = .ok (.aload_n 0, 1) := by decide +kernel
theorem dX11_drop_11 : decode cX11_drop 11 = .ok (.getfield 127, 3) := by decide +kernel
theorem dX11_drop_14 : decode cX11_drop 14 = .ok (.iconst 1, 1) := by decide +kernel
theorem dX11_drop_15 : decode cX11_drop 15 = .ok (.isub, 1) := by decide +kernel
theorem dX11_drop_16 : decode cX11_drop 16 = .ok (.i2l, 1) := by decide +kernel
theorem dX11_drop_17 : decode cX11_drop 17 = .ok (.invokestatic 138, 3) := by decide +kernel
theorem dX11_drop_20 : decode cX11_drop 20 = .ok (.ifCond .eq 12, 3) := by decide +kernel
theorem dX11_drop_23 : decode cX11_drop 23 = .ok (.aload_n 0, 1) := by decide +kernel
theorem dX11_drop_24 : decode cX11_drop 24 = .ok (.getfield 25, 3) := by decide +kernel
theorem dX11_drop_27 : decode cX11_drop 27 = .ok (.iload_n 1, 1) := by decide +kernel
theorem dX11_drop_28 : decode cX11_drop 28 = .ok (.baload, 1) := by decide +kernel
theorem dX11_drop_29 : decode cX11_drop 29 = .ok (.ifCond .ne 6, 3) := by decide +kernel
theorem dX11_drop_32 : decode cX11_drop 32 = .ok (.bipush (-2), 2) := by decide +kernel
theorem dX11_drop_34 : decode cX11_drop 34 = .ok (.ireturn, 1) := by decide +kernel
theorem dX11_drop_35 : decode cX11_drop 35 = .ok (.aload_n 0, 1) := by decide +kernel
theorem dX11_drop_36 : decode cX11_drop 36 = .ok (.getfield 25, 3) := by decide +kernel
theorem dX11_drop_39 : decode cX11_drop 39 = .ok (.iload_n 1, 1) := by decide +kernel
theorem dX11_drop_40 : decode cX11_drop 40 = .ok (.iconst 0, 1) := by decide +kernel
theorem dX11_drop_41 : decode cX11_drop 41 = .ok (.bastore, 1) := by decide +kernel
theorem dX11_drop_42 : decode cX11_drop 42 = .ok (.iconst 1, 1) := by decide +kernel
theorem dX11_drop_43 : decode cX11_drop 43 = .ok (.ireturn, 1) := by decide +kernel
theorem dX11_apply_0 : decode cX11_apply 0 = .ok (.iload_n 1, 1) := by decide +kernel
theorem dX11_apply_1 : decode cX11_apply 1 = .ok (.bipush 7, 2) := by decide +kernel
theorem dX11_apply_3 : decode cX11_apply 3 = .ok (.if_icmp .ne 20, 3) := by decide +kernel
theorem dX11_apply_6 : decode cX11_apply 6 = .ok (.aload_n 0, 1) := by decide +kernel
