theorem dX11_findWay_73 : decode cX11_findWay 73 = .ok (.if_icmp .ge 26, 3) := by decide +kernel
theorem dX11_findWay_76 : decode cX11_findWay 76 = .ok (.aload_n 0, 1) := by decide +kernel
theorem dX11_findWay_77 : decode cX11_findWay 77 = .ok (.getfield 99, 3) := by decide +kernel
theorem dX11_findWay_80 : decode cX11_findWay 80 = .ok (.iload_n 3, 1) := by decide +kernel
theorem dX11_findWay_81 : decode cX11_findWay 81 = .ok (.iload_n 3, 1) := by decide +kernel
theorem dX11_findWay_82 : decode cX11_findWay 82 = .ok (.iload_n 1, 1) := by decide +kernel
theorem dX11_findWay_83 : decode cX11_findWay 83 = .ok (.if_icmp .ne 7, 3) := by decide +kernel
theorem dX11_findWay_86 : decode cX11_findWay 86 = .ok (.iconst 0, 1) := by decide +kernel
theorem dX11_findWay_87 : decode cX11_findWay 87 = .ok (.goto 5, 3) := by decide +kernel
theorem dX11_findWay_90 : decode cX11_findWay 90 = .ok (.ldc 180, 2) := by decide +kernel
theorem dX11_findWay_92 : decode cX11_findWay 92 = .ok (.iastore, 1) := by decide +kernel
theorem dX11_findWay_93 : decode cX11_findWay 93 = .ok (.iinc 3 1, 3) := by decide +kernel
theorem dX11_findWay_96 : decode cX11_findWay 96 = .ok (.goto (-26), 3) := by decide +kernel
theorem dX11_findWay_99 : decode cX11_findWay 99 = .ok (.aload_n 0, 1) := by decide +kernel
theorem dX11_findWay_100 : decode cX11_findWay 100 = .ok (.getfield 102, 3) := by decide +kernel
theorem dX11_findWay_103 : decode cX11_findWay 103 = .ok (.bipush 10, 2) := by decide +kernel
theorem dX11_findWay_105 : decode cX11_findWay 105 = .ok (.iload_n 1, 1) := by decide +kernel
theorem dX11_findWay_106 : decode cX11_findWay 106 = .ok (.imul, 1) := by decide +kernel
theorem dX11_findWay_107 : decode cX11_findWay 107 = .ok (.iload_n 1, 1) := by decide +kernel
theorem dX11_findWay_108 : decode cX11_findWay 108 = .ok (.iastore, 1) := by decide +kernel
theorem dX11_findWay_109 : decode cX11_findWay 109 = .ok (.iconst 1, 1) := by decide +kernel
theorem dX11_findWay_110 : decode cX11_findWay 110 = .ok (.istore_n 3, 1) := by decide +kernel
theorem dX11_findWay_111 : decode cX11_findWay 111 = .ok (.iload_n 3, 1) := by decide +kernel
theorem dX11_findWay_112 : decode cX11_findWay 112 = .ok (.bipush 10, 2) := by decide +kernel
theorem dX11_findWay_114 : decode cX11_findWay 114 = .ok (.if_icmp .ge 197, 3) := by decide +kernel
theorem dX11_findWay_117 : decode cX11_findWay 117 = .ok (.iconst 0, 1) := by decide +kernel
theorem dX11_findWay_118 : decode cX11_findWay 118 = .ok (.istore 4, 2) := by decide +kernel
theorem dX11_findWay_120 : decode cX11_findWay 120 = .ok (.iload 4, 2) := by decide +kernel
theorem dX11_findWay_122 : decode cX11_findWay 122 = .ok (.bipush 10, 2) := by decide +kernel
theorem dX11_findWay_124 : decode cX11_findWay 124 = .ok (.if_icmp .ge 181, 3) := by decide +kernel
theorem dX11_findWay_127 : decode cX11_findWay 127 = .ok (.iconst 0, 1) := by decide +kernel
theorem dX11_findWay_128 : decode cX11_findWay 128 = .ok (.istore 5, 2) := by decide +kernel
theorem dX11_findWay_130 : decode cX11_findWay 130 = .ok (.iload 5, 2) := by decide +kernel
theorem dX11_findWay_132 : decode cX11_findWay 132 = .ok (.bipush 10, 2) := by decide +kernel
theorem dX11_findWay_134 : decode cX11_findWay 134 = .ok (.if_icmp .ge 165, 3) := by decide +kernel
theorem dX11_findWay_137 : decode cX11_findWay 137 = .ok (.bipush 10, 2) := by decide +kernel
theorem dX11_findWay_139 : decode cX11_findWay 139 = .ok (.iload_n 3, 1) := by decide +kernel
theorem dX11_findWay_140 : decode cX11_findWay 140 = .ok (.iconst 1, 1) := by decide +kernel
theorem dX11_findWay_141 : decode cX11_findWay 141 = .ok (.isub, 1) := by decide +kernel
theorem dX11_findWay_142 : decode cX11_findWay 142 = .ok (.imul, 1) := by decide +kernel
theorem dX11_findWay_143 : decode cX11_findWay 143 = .ok (.iload 4, 2) := by decide +kernel
theorem dX11_findWay_145 : decode cX11_findWay 145 = .ok (.iadd, 1) := by decide +kernel
theorem dX11_findWay_146 : decode cX11_findWay 146 = .ok (.istore 6, 2) := by decide +kernel
theorem dX11_findWay_148 : decode cX11_findWay 148 = .ok (.bipush 10, 2) := by decide +kernel
theorem dX11_findWay_150 : decode cX11_findWay 150 = .ok (.iload_n 3, 1) := by decide +kernel
theorem dX11_findWay_151 : decode cX11_findWay 151 = .ok (.imul, 1) := by decide +kernel
theorem dX11_findWay_152 : decode cX11_findWay 152 = .ok (.iload 5, 2) := by decide +kernel
theorem dX11_findWay_154 : decode cX11_findWay 154 = .ok (.iadd, 1) := by decide +kernel
theorem dX11_findWay_155 : decode cX11_findWay 155 = .ok (.istore 7, 2) := by decide +kernel
theorem dX11_findWay_157 : decode cX11_findWay 157 = .ok (.aload_n 0, 1) := by decide +kernel
theorem dX11_findWay_158 : decode cX11_findWay 158 = .ok (.getfield 99, 3) := by decide +kernel
theorem dX11_findWay_161 : decode cX11_findWay 161 = .ok (.iload 6, 2) := by decide +kernel
theorem dX11_findWay_163 : decode cX11_findWay 163 = .ok (.iaload, 1) := by decide +kernel
theorem dX11_findWay_164 : decode cX11_findWay 164 = .ok (.aload_n 0, 1) := by decide +kernel
theorem dX11_findWay_165 : decode cX11_findWay 165 = .ok (.getfield 105, 3) := by decide +kernel
theorem dX11_findWay_168 : decode cX11_findWay 168 = .ok (.bipush 10, 2) := by decide +kernel
theorem dX11_findWay_170 : decode cX11_findWay 170 = .ok (.iload 4, 2) := by decide +kernel
theorem dX11_findWay_172 : decode cX11_findWay 172 = .ok (.imul, 1) := by decide +kernel
theorem dX11_findWay_173 : decode cX11_findWay 173 = .ok (.iload 5, 2) := by decide +kernel
theorem dX11_findWay_175 : decode cX11_findWay 175 = .ok (.iadd, 1) := by decide +kernel
theorem dX11_findWay_176 : decode cX11_findWay 176 = .ok (.iaload, 1) := by decide +kernel
theorem dX11_findWay_177 : decode cX11_findWay 177 = .ok (.iadd, 1) := by decide +kernel
theorem dX11_findWay_178 : decode cX11_findWay 178 = .ok (.istore 8, 2) := by decide +kernel
theorem dX11_findWay_180 : decode cX11_findWay 180 = .ok (.iload 8, 2) := by decide +kernel
theorem dX11_findWay_182 : decode cX11_findWay 182 = .ok (.ldc 180, 2) := by decide +kernel
theorem dX11_findWay_184 : decode cX11_findWay 184 = .ok (.if_icmp .ge 109, 3) := by decide +kernel
theorem dX11_findWay_187 : decode cX11_findWay 187 = .ok (.iload 8, 2) := by decide +kernel
theorem dX11_findWay_189 : decode cX11_findWay 189 = .ok (.aload_n 0, 1) := by decide +kernel
theorem dX11_findWay_190 : decode cX11_findWay 190 = .ok (.getfield 99, 3) := by decide +kernel
theorem dX11_findWay_193 : decode cX11_findWay 193 = .ok (.iload 7, 2) := by decide +kernel
theorem dX11_findWay_195 : decode cX11_findWay 195 = .ok (.iaload, 1) := by decide +kernel
theorem dX11_findWay_196 : decode cX11_findWay 196 = .ok (.if_icmp .lt 33, 3) := by decide +kernel
theorem dX11_findWay_199 : decode cX11_findWay 199 = .ok (.iload 8, 2) := by decide +kernel
theorem dX11_findWay_201 : decode cX11_findWay 201 = .ok (.aload_n 0, 1) := by decide +kernel
theorem dX11_findWay_202 : decode cX11_findWay 202 = .ok (.getfield 99, 3) := by decide +kernel
theorem dX11_findWay_205 : decode cX11_findWay 205 = .ok (.iload 7, 2) := by decide +kernel
theorem dX11_findWay_207 : decode cX11_findWay 207 = .ok (.iaload, 1) := by decide +kernel
theorem dX11_findWay_208 : decode cX11_findWay 208 = .ok (.if_icmp .ne 85, 3) := by decide +kernel
theorem dX11_findWay_211 : decode cX11_findWay 211 = .ok (.aload_n 0, 1) := by decide +kernel
theorem dX11_findWay_212 : decode cX11_findWay 212 = .ok (.bipush 10, 2) := by decide +kernel
theorem dX11_findWay_214 : decode cX11_findWay 214 = .ok (.iload 6, 2) := by decide +kernel
theorem dX11_findWay_216 : decode cX11_findWay 216 = .ok (.imul, 1) := by decide +kernel
theorem dX11_findWay_217 : decode cX11_findWay 217 = .ok (.bipush 10, 2) := by decide +kernel
theorem dX11_findWay_219 : decode cX11_findWay 219 = .ok (.iload 7, 2) := by decide +kernel
theorem dX11_findWay_221 : decode cX11_findWay 221 = .ok (.imul, 1) := by decide +kernel
theorem dX11_findWay_222 : decode cX11_findWay 222 = .ok (.iload_n 3, 1) := by decide +kernel
theorem dX11_findWay_223 : decode cX11_findWay 223 = .ok (.invokevirtual 272, 3) := by decide +kernel
theorem dX11_findWay_226 : decode cX11_findWay 226 = .ok (.ifCond .eq 67, 3) := by decide +kernel
theorem dX11_findWay_229 : decode cX11_findWay 229 = .ok (.aload_n 0, 1) := by decide +kernel
theorem dX11_findWay_230 : decode cX11_findWay 230 = .ok (.getfield 99, 3) := by decide +kernel
theorem dX11_findWay_233 : decode cX11_findWay 233 = .ok (.iload 7, 2) := by decide +kernel
theorem dX11_findWay_235 : decode cX11_findWay 235 = .ok (.iload 8, 2) := by decide +kernel
theorem dX11_findWay_237 : decode cX11_findWay 237 = .ok (.iastore, 1) := by decide +kernel
theorem dX11_findWay_238 : decode cX11_findWay 238 = .ok (.iconst 0, 1) := by decide +kernel
theorem dX11_findWay_239 : decode cX11_findWay 239 = .ok (.istore 9, 2) := by decide +kernel
theorem dX11_findWay_241 : decode cX11_findWay 241 = .ok (.iload 9, 2) := by decide +kernel
theorem dX11_findWay_243 : decode cX11_findWay 243 = .ok (.iload_n 3, 1) := by decide +kernel
theorem dX11_findWay_244 : decode cX11_findWay 244 = .ok (.if_icmp .ge 35, 3) := by decide +kernel
theorem dX11_findWay_247 : decode cX11_findWay 247 = .ok (.aload_n 0, 1) := by decide +kernel
theorem dX11_findWay_248 : decode cX11_findWay 248 = .ok (.getfield 102, 3) := by decide +kernel
theorem dX11_findWay_251 : decode cX11_findWay 251 = .ok (.bipush 10, 2) := by decide +kernel
theorem dX11_findWay_253 : decode cX11_findWay 253 = .ok (.iload 7, 2) := by decide +kernel
theorem dX11_findWay_255 : decode cX11_findWay 255 = .ok (.imul, 1) := by decide +kernel
theorem dX11_findWay_256 : decode cX11_findWay 256 = .ok (.iload 9, 2) := by decide +kernel
theorem dX11_findWay_258 : decode cX11_findWay 258 = .ok (.iadd, 1) := by decide +kernel
theorem dX11_findWay_259 : decode cX11_findWay 259 = .ok (.aload_n 0, 1) := by decide +kernel
theorem dX11_findWay_260 : decode cX11_findWay 260 = .ok (.getfield 102, 3) := by decide +kernel
theorem dX11_findWay_263 : decode cX11_findWay 263 = .ok (.bipush 10, 2) := by decide +kernel
theorem dX11_findWay_265 : decode cX11_findWay 265 = .ok (.iload 6, 2) := by decide +kernel
theorem dX11_findWay_267 : decode cX11_findWay 267 = .ok (.imul, 1) := by decide +kernel
theorem dX11_findWay_268 : decode cX11_findWay 268 = .ok (.iload 9, 2) := by decide +kernel
theorem dX11_findWay_270 : decode cX11_findWay 270 = .ok (.iadd, 1) := by decide +kernel
theorem dX11_findWay_271 : decode cX11_findWay 271 = .ok (.iaload, 1) := by decide +kernel
theorem dX11_findWay_272 : decode cX11_findWay 272 = .ok (.iastore, 1) := by decide +kernel
theorem dX11_findWay_273 : decode cX11_findWay 273 = .ok (.iinc 9 1, 3) := by decide +kernel
theorem dX11_findWay_276 : decode cX11_findWay 276 = .ok (.goto (-35), 3) := by decide +kernel
theorem dX11_findWay_279 : decode cX11_findWay 279 = .ok (.aload_n 0, 1) := by decide +kernel
theorem dX11_findWay_280 : decode cX11_findWay 280 = .ok (.getfield 102, 3) := by decide +kernel
theorem dX11_findWay_283 : decode cX11_findWay 283 = .ok (.bipush 10, 2) := by decide +kernel
theorem dX11_findWay_285 : decode cX11_findWay 285 = .ok (.iload 7, 2) := by decide +kernel
theorem dX11_findWay_287 : decode cX11_findWay 287 = .ok (.imul, 1) := by decide +kernel
theorem dX11_findWay_288 : decode cX11_findWay 288 = .ok (.iload_n 3, 1) := by decide +kernel
theorem dX11_findWay_289 : decode cX11_findWay 289 = .ok (.iadd, 1) := by decide +kernel
theorem dX11_findWay_290 : decode cX11_findWay 290 = .ok (.iload 5, 2) := by decide +kernel
theorem dX11_findWay_292 : decode cX11_findWay 292 = .ok (.iastore, 1) := by decide +kernel
theorem dX11_findWay_293 : decode cX11_findWay 293 = .ok (.iinc 5 1, 3) := by decide +kernel
theorem dX11_findWay_296 : decode cX11_findWay 296 = .ok (.goto (-166), 3) := by decide +kernel
theorem dX11_findWay_299 : decode cX11_findWay 299 = .ok (.iinc 4 1, 3) := by decide +kernel
theorem dX11_findWay_302 : decode cX11_findWay 302 = .ok (.goto (-182), 3) := by decide +kernel
theorem dX11_findWay_305 : decode cX11_findWay 305 = .ok (.iinc 3 1, 3) := by decide +kernel
theorem dX11_findWay_308 : decode cX11_findWay 308 = .ok (.goto (-197), 3) := by decide +kernel
theorem dX11_findWay_311 : decode cX11_findWay 311 = .ok (.iconst 0, 1) := by decide +kernel
theorem dX11_findWay_312 : decode cX11_findWay 312 = .ok (.istore_n 3, 1) := by decide +kernel
theorem dX11_findWay_313 : decode cX11_findWay 313 = .ok (.iconst 1, 1) := by decide +kernel
theorem dX11_findWay_314 : decode cX11_findWay 314 = .ok (.istore 4, 2) := by decide +kernel
theorem dX11_findWay_316 : decode cX11_findWay 316 = .ok (.iload 4, 2) := by decide +kernel
theorem dX11_findWay_318 : decode cX11_findWay 318 = .ok (.bipush 10, 2) := by decide +kernel
theorem dX11_findWay_320 : decode cX11_findWay 320 = .ok (.if_icmp .ge 42, 3) := by decide +kernel
theorem dX11_findWay_323 : decode cX11_findWay 323 = .ok (.aload_n 0, 1) := by decide +kernel
theorem dX11_findWay_324 : decode cX11_findWay 324 = .ok (.getfield 99, 3) := by decide +kernel
theorem dX11_findWay_327 : decode cX11_findWay 327 = .ok (.bipush 10, 2) := by decide +kernel
theorem dX11_findWay_329 : decode cX11_findWay 329 = .ok (.iload 4, 2) := by decide +kernel
theorem dX11_findWay_331 : decode cX11_findWay 331 = .ok (.imul, 1) := by decide +kernel
theorem dX11_findWay_332 : decode cX11_findWay 332 = .ok (.iload_n 2, 1) := by decide +kernel
theorem dX11_findWay_333 : decode cX11_findWay 333 = .ok (.iadd, 1) := by decide +kernel
theorem dX11_findWay_334 : decode cX11_findWay 334 = .ok (.iaload, 1) := by decide +kernel
theorem dX11_findWay_335 : decode cX11_findWay 335 = .ok (.aload_n 0, 1) := by decide +kernel
theorem dX11_findWay_336 : decode cX11_findWay 336 = .ok (.getfield 99, 3) := by decide +kernel
theorem dX11_findWay_339 : decode cX11_findWay 339 = .ok (.bipush 10, 2) := by decide +kernel
theorem dX11_findWay_341 : decode cX11_findWay 341 = .ok (.iload_n 3, 1) := by decide +kernel
theorem dX11_findWay_342 : decode cX11_findWay 342 = .ok (.imul, 1) := by decide +kernel
theorem dX11_findWay_343 : decode cX11_findWay 343 = .ok (.iload_n 2, 1) := by decide +kernel
theorem dX11_findWay_344 : decode cX11_findWay 344 = .ok (.iadd, 1) := by decide +kernel
theorem dX11_findWay_345 : decode cX11_findWay 345 = .ok (.iaload, 1) := by decide +kernel
theorem dX11_findWay_346 : decode cX11_findWay 346 = .ok (.if_icmp .ge 8, 3) := by decide +kernel
theorem dX11_findWay_349 : decode cX11_findWay 349 = .ok (.iload 4, 2) := by decide +kernel
theorem dX11_findWay_351 : decode cX11_findWay 351 = .ok (.goto 4, 3) := by decide +kernel
theorem dX11_findWay_354 : decode cX11_findWay 354 = .ok (.iload_n 3, 1) := by decide +kernel
theorem dX11_findWay_355 : decode cX11_findWay 355 = .ok (.istore_n 3, 1) := by decide +kernel
theorem dX11_findWay_356 : decode cX11_findWay 356 = .ok (.iinc 4 1, 3) := by decide +kernel
theorem dX11_findWay_359 : decode cX11_findWay 359 = .ok (.goto (-43), 3) := by decide +kernel
theorem dX11_findWay_362 : decode cX11_findWay 362 = .ok (.aload_n 0, 1) := by decide +kernel
theorem dX11_findWay_363 : decode cX11_findWay 363 = .ok (.iload_n 3, 1) := by decide +kernel
theorem dX11_findWay_364 : decode cX11_findWay 364 = .ok (.iconst 1, 1) := by decide +kernel
theorem dX11_findWay_365 : decode cX11_findWay 365 = .ok (.iadd, 1) := by decide +kernel
theorem dX11_findWay_366 : decode cX11_findWay 366 = .ok (.putfield 276, 3) := by decide +kernel
theorem dX11_findWay_369 : decode cX11_findWay 369 = .ok (.iconst 0, 1) := by decide +kernel
theorem dX11_findWay_370 : decode cX11_findWay 370 = .ok (.istore 4, 2) := by decide +kernel
theorem dX11_findWay_372 : decode cX11_findWay 372 = .ok (.iload 4, 2) := by decide +kernel
theorem dX11_findWay_374 : decode cX11_findWay 374 = .ok (.aload_n 0, 1) := by decide +kernel
theorem dX11_findWay_375 : decode cX11_findWay 375 = .ok (.getfield 276, 3) := by decide +kernel
theorem dX11_findWay_378 : decode cX11_findWay 378 = .ok (.if_icmp .ge 33, 3) := by decide +kernel
theorem dX11_findWay_381 : decode cX11_findWay 381 = .ok (.aload_n 0, 1) := by decide +kernel
theorem dX11_findWay_382 : decode cX11_findWay 382 = .ok (.getfield 108, 3) := by decide +kernel
theorem dX11_findWay_385 : decode cX11_findWay 385 = .ok (.iload 4, 2) := by decide +kernel
theorem dX11_findWay_387 : decode cX11_findWay 387 = .ok (.aload_n 0, 1) := by decide +kernel
theorem dX11_findWay_388 : decode cX11_findWay 388 = .ok (.getfield 102, 3) := by decide +kernel
theorem dX11_findWay_391 : decode cX11_findWay 391 = .ok (.bipush 10, 2) := by decide +kernel
theorem dX11_findWay_393 : decode cX11_findWay 393 = .ok (.bipush 10, 2) := by decide +kernel
theorem dX11_findWay_395 : decode cX11_findWay 395 = .ok (.iload_n 3, 1) := by decide +kernel
theorem dX11_findWay_396 : decode cX11_findWay 396 = .ok (.imul, 1) := by decide +kernel
theorem dX11_findWay_397 : decode cX11_findWay 397 = .ok (.iload_n 2, 1) := by decide +kernel
theorem dX11_findWay_398 : decode cX11_findWay 398 = .ok (.iadd, 1) := by decide +kernel
theorem dX11_findWay_399 : decode cX11_findWay 399 = .ok (.imul, 1) := by decide +kernel
theorem dX11_findWay_400 : decode cX11_findWay 400 = .ok (.iload 4, 2) := by decide +kernel
theorem dX11_findWay_402 : decode cX11_findWay 402 = .ok (.iadd, 1) := by decide +kernel
theorem dX11_findWay_403 : decode cX11_findWay 403 = .ok (.iaload, 1) := by decide +kernel
theorem dX11_findWay_404 : decode cX11_findWay 404 = .ok (.iastore, 1) := by decide +kernel
theorem dX11_findWay_405 : decode cX11_findWay 405 = .ok (.iinc 4 1, 3) := by decide +kernel
theorem dX11_findWay_408 : decode cX11_findWay 408 = .ok (.goto (-36), 3) := by decide +kernel
theorem dX11_findWay_411 : decode cX11_findWay 411 = .ok (.aload_n 0, 1) := by decide +kernel
theorem dX11_findWay_412 : decode cX11_findWay 412 = .ok (.getfield 99, 3) := by decide +kernel
theorem dX11_findWay_415 : decode cX11_findWay 415 = .ok (.bipush 10, 2) := by decide +kernel
theorem dX11_findWay_417 : decode cX11_findWay 417 = .ok (.iload_n 3, 1) := by decide +kernel
theorem dX11_findWay_418 : decode cX11_findWay 418 = .ok (.imul, 1) := by decide +kernel
theorem dX11_findWay_419 : decode cX11_findWay 419 = .ok (.iload_n 2, 1) := by decide +kernel
theorem dX11_findWay_420 : decode cX11_findWay 420 = .ok (.iadd, 1) := by decide +kernel
theorem dX11_findWay_421 : decode cX11_findWay 421 = .ok (.iaload, 1) := by decide +kernel
theorem dX11_findWay_422 : decode cX11_findWay 422 = .ok (.ireturn, 1) := by decide +kernel
theorem dX11_way_0 : decode cX11_way 0 = .ok (.aload_n 0, 1) := by decide +kernel
theorem dX11_way_1 : decode cX11_way 1 = .ok (.iconst 0, 1) := by decide +kernel
theorem dX11_way_2 : decode cX11_way 2 = .ok (.putfield 131, 3) := by decide +kernel
theorem dX11_way_5 : decode cX11_way 5 = .ok (.iload_n 1, 1) := by decide +kernel
theorem dX11_way_6 : decode cX11_way 6 = .ok (.i2l, 1) := by decide +kernel
theorem dX11_way_7 : decode cX11_way 7 = .ok (.lconst 0, 1) := by decide +kernel
theorem dX11_way_8 : decode cX11_way 8 = .ok (.ldc2_w 221, 3) := by decide +kernel
theorem dX11_way_11 : decode cX11_way 11 = .ok (.invokestatic 138, 3) := by decide +kernel
theorem dX11_way_14 : decode cX11_way 14 = .ok (.ifCond .eq 19, 3) := by decide +kernel
theorem dX11_way_17 : decode cX11_way 17 = .ok (.iload_n 2, 1) := by decide +kernel
theorem dX11_way_18 : decode cX11_way 18 = .ok (.i2l, 1) := by decide +kernel
theorem dX11_way_19 : decode cX11_way 19 = .ok (.lconst 0, 1) := by decide +kernel
theorem dX11_way_20 : decode cX11_way 20 = .ok (.ldc2_w 221, 3) := by decide +kernel
theorem dX11_way_23 : decode cX11_way 23 = .ok (.invokestatic 138, 3) := by decide +kernel
theorem dX11_way_26 : decode cX11_way 26 = .ok (.ifCond .eq 7, 3) := by decide +kernel
theorem dX11_way_29 : decode cX11_way 29 = .ok (.iload_n 3, 1) := by decide +kernel
theorem dX11_way_30 : decode cX11_way 30 = .ok (.ifCond .ge 6, 3) := by decide +kernel
theorem dX11_way_33 : decode cX11_way 33 = .ok (.bipush (-3), 2) := by decide +kernel
theorem dX11_way_35 : decode cX11_way 35 = .ok (.ireturn, 1) := by decide +kernel
theorem dX11_way_36 : decode cX11_way 36 = .ok (.aload_n 0, 1) := by decide +kernel
theorem dX11_way_37 : decode cX11_way 37 = .ok (.invokevirtual 189, 3) := by decide +kernel
theorem dX11_way_40 : decode cX11_way 40 = .ok (.aload_n 0, 1) := by decide +kernel
theorem dX11_way_41 : decode cX11_way 41 = .ok (.iload_n 1, 1) := by decide +kernel
theorem dX11_way_42 : decode cX11_way 42 = .ok (.iload_n 2, 1) := by decide +kernel
theorem dX11_way_43 : decode cX11_way 43 = .ok (.invokevirtual 279, 3) := by decide +kernel
theorem dX11_way_46 : decode cX11_way 46 = .ok (.istore 4, 2) := by decide +kernel
theorem dX11_way_48 : decode cX11_way 48 = .ok (.iload 4, 2) := by decide +kernel
theorem dX11_way_50 : decode cX11_way 50 = .ok (.ldc 180, 2) := by decide +kernel
theorem dX11_way_52 : decode cX11_way 52 = .ok (.if_icmp .lt 5, 3) := by decide +kernel
theorem dX11_way_55 : decode cX11_way 55 = .ok (.iconst (-1), 1) := by decide +kernel
theorem dX11_way_56 : decode cX11_way 56 = .ok (.ireturn, 1) := by decide +kernel
theorem dX11_way_57 : decode cX11_way 57 = .ok (.iload_n 3, 1) := by decide +kernel
theorem dX11_way_58 : decode cX11_way 58 = .ok (.ifCond .ne 8, 3) := by decide +kernel
theorem dX11_way_61 : decode cX11_way 61 = .ok (.iload 4, 2) := by decide +kernel
theorem dX11_way_63 : decode cX11_way 63 = .ok (.goto 37, 3) := by decide +kernel
theorem dX11_way_66 : decode cX11_way 66 = .ok (.iload_n 3, 1) := by decide +kernel
theorem dX11_way_67 : decode cX11_way 67 = .ok (.iconst 1, 1) := by decide +kernel
theorem dX11_way_68 : decode cX11_way 68 = .ok (.if_icmp .ne 10, 3) := by decide +kernel
theorem dX11_way_71 : decode cX11_way 71 = .ok (.aload_n 0, 1) := by decide +kernel
theorem dX11_way_72 : decode cX11_way 72 = .ok (.getfield 276, 3) := by decide +kernel
theorem dX11_way_75 : decode cX11_way 75 = .ok (.goto 25, 3) := by decide +kernel
theorem dX11_way_78 : decode cX11_way 78 = .ok (.iload_n 3, 1) := by decide +kernel
theorem dX11_way_79 : decode cX11_way 79 = .ok (.iconst 2, 1) := by decide +kernel
theorem dX11_way_80 : decode cX11_way 80 = .ok (.isub, 1) := by decide +kernel
theorem dX11_way_81 : decode cX11_way 81 = .ok (.aload_n 0, 1) := by decide +kernel
theorem dX11_way_82 : decode cX11_way 82 = .ok (.getfield 276, 3) := by decide +kernel
theorem dX11_way_85 : decode cX11_way 85 = .ok (.if_icmp .ge 14, 3) := by decide +kernel
theorem dX11_way_88 : decode cX11_way 88 = .ok (.aload_n 0, 1) := by decide +kernel
theorem dX11_way_89 : decode cX11_way 89 = .ok (.getfield 108, 3) := by decide +kernel
theorem dX11_way_92 : decode cX11_way 92 = .ok (.iload_n 3, 1) := by decide +kernel
theorem dX11_way_93 : decode cX11_way 93 = .ok (.iconst 2, 1) := by decide +kernel
theorem dX11_way_94 : decode cX11_way 94 = .ok (.isub, 1) := by decide +kernel
theorem dX11_way_95 : decode cX11_way 95 = .ok (.iaload, 1) := by decide +kernel
theorem dX11_way_96 : decode cX11_way 96 = .ok (.goto 4, 3) := by decide +kernel
theorem dX11_way_99 : decode cX11_way 99 = .ok (.iconst (-1), 1) := by decide +kernel
theorem dX11_way_100 : decode cX11_way 100 = .ok (.ireturn, 1) := by decide +kernel
theorem dX11_object_0 : decode cX11_object 0 = .ok (.aload_n 0, 1) := by decide +kernel
theorem dX11_object_1 : decode cX11_object 1 = .ok (.iconst 0, 1) := by decide +kernel
theorem dX11_object_2 : decode cX11_object 2 = .ok (.putfield 131, 3) := by decide +kernel
theorem dX11_object_5 : decode cX11_object 5 = .ok (.iload_n 1, 1) := by decide +kernel
theorem dX11_object_6 : decode cX11_object 6 = .ok (.i2l, 1) := by decide +kernel
theorem dX11_object_7 : decode cX11_object 7 = .ok (.lconst 0, 1) := by decide +kernel
theorem dX11_object_8 : decode cX11_object 8 = .ok (.ldc2_w 221, 3) := by decide +kernel
theorem dX11_object_11 : decode cX11_object 11 = .ok (.invokestatic 138, 3) := by decide +kernel
theorem dX11_object_14 : decode cX11_object 14 = .ok (.ifCond .ne 6, 3) := by decide +kernel
theorem dX11_object_17 : decode cX11_object 17 = .ok (.bipush (-3), 2) := by decide +kernel
theorem dX11_object_19 : decode cX11_object 19 = .ok (.ireturn, 1) := by decide +kernel
theorem dX11_object_20 : decode cX11_object 20 = .ok (.aload_n 0, 1) := by decide +kernel
theorem dX11_object_21 : decode cX11_object 21 = .ok (.getfield 282, 3) := by decide +kernel
theorem dX11_object_24 : decode cX11_object 24 = .ok (.bipush 20, 2) := by decide +kernel
theorem dX11_object_26 : decode cX11_object 26 = .ok (.if_icmp .ne 6, 3) := by decide +kernel
theorem dX11_object_29 : decode cX11_object 29 = .ok (.bipush (-5), 2) := by decide +kernel
theorem dX11_object_31 : decode cX11_object 31 = .ok (.ireturn, 1) := by decide +kernel
theorem dX11_object_32 : decode cX11_object 32 = .ok (.aload_n 0, 1) := by decide +kernel
theorem dX11_object_33 : decode cX11_object 33 = .ok (.getfield 66, 3) := by decide +kernel
theorem dX11_object_36 : decode cX11_object 36 = .ok (.aload_n 0, 1) := by decide +kernel
theorem dX11_object_37 : decode cX11_object 37 = .ok (.getfield 282, 3) := by decide +kernel
theorem dX11_object_40 : decode cX11_object 40 = .ok (.iload_n 1, 1) := by decide +kernel
theorem dX11_object_41 : decode cX11_object 41 = .ok (.iastore, 1) := by decide +kernel
theorem dX11_object_42 : decode cX11_object 42 = .ok (.aload_n 0, 1) := by decide +kernel
theorem dX11_object_43 : decode cX11_object 43 = .ok (.dup, 1) := by decide +kernel
theorem dX11_object_44 : decode cX11_object 44 = .ok (.getfield 282, 3) := by decide +kernel
theorem dX11_object_47 : decode cX11_object 47 = .ok (.iconst 1, 1) := by decide +kernel
theorem dX11_object_48 : decode cX11_object 48 = .ok (.iadd, 1) := by decide +kernel
theorem dX11_object_49 : decode cX11_object 49 = .ok (.putfield 282, 3) := by decide +kernel
theorem dX11_object_52 : decode cX11_object 52 = .ok (.aload_n 0, 1) := by decide +kernel
theorem dX11_object_53 : decode cX11_object 53 = .ok (.getfield 282, 3) := by decide +kernel
theorem dX11_object_56 : decode cX11_object 56 = .ok (.iconst 1, 1) := by decide +kernel
theorem dX11_object_57 : decode cX11_object 57 = .ok (.isub, 1) := by decide +kernel
theorem dX11_object_58 : decode cX11_object 58 = .ok (.ireturn, 1) := by decide +kernel
theorem dX11_put_0 : decode cX11_put 0 = .ok (.aload_n 0, 1) := by decide +kernel
theorem dX11_put_1 : decode cX11_put 1 = .ok (.iconst 0, 1) := by decide +kernel
theorem dX11_put_2 : decode cX11_put 2 = .ok (.putfield 131, 3) := by decide +kernel
theorem dX11_put_5 : decode cX11_put 5 = .ok (.iload_n 1, 1) := by decide +kernel
theorem dX11_put_6 : decode cX11_put 6 = .ok (.i2l, 1) := by decide +kernel
theorem dX11_put_7 : decode cX11_put 7 = .ok (.lconst 0, 1) := by decide +kernel
theorem dX11_put_8 : decode cX11_put 8 = .ok (.aload_n 0, 1) := by decide +kernel
theorem dX11_put_9 : decode cX11_put 9 = .ok (.getfield 282, 3) := by decide +kernel
theorem dX11_put_12 : decode cX11_put 12 = .ok (.iconst 1, 1) := by decide +kernel
theorem dX11_put_13 : decode cX11_put 13 = .ok (.isub, 1) := by decide +kernel
theorem dX11_put_14 : decode cX11_put 14 = .ok (.i2l, 1) := by decide +kernel
theorem dX11_put_15 : decode cX11_put 15 = .ok (.invokestatic 138, 3) := by decide +kernel
theorem dX11_put_18 : decode cX11_put 18 = .ok (.ifCond .ne 6, 3) := by decide +kernel
theorem dX11_put_21 : decode cX11_put 21 = .ok (.bipush (-2), 2) := by decide +kernel
theorem dX11_put_23 : decode cX11_put 23 = .ok (.ireturn, 1) := by decide +kernel
theorem dX11_put_24 : decode cX11_put 24 = .ok (.iload_n 2, 1) := by decide +kernel
theorem dX11_put_25 : decode cX11_put 25 = .ok (.i2l, 1) := by decide +kernel
theorem dX11_put_26 : decode cX11_put 26 = .ok (.lconst 0, 1) := by decide +kernel
theorem dX11_put_27 : decode cX11_put 27 = .ok (.ldc2_w 227, 3) := by decide +kernel
theorem dX11_put_30 : decode cX11_put 30 = .ok (.invokestatic 138, 3) := by decide +kernel
theorem dX11_put_33 : decode cX11_put 33 = .ok (.ifCond .ne 6, 3) := by decide +kernel
theorem dX11_put_36 : decode cX11_put 36 = .ok (.bipush (-3), 2) := by decide +kernel
theorem dX11_put_38 : decode cX11_put 38 = .ok (.ireturn, 1) := by decide +kernel
theorem dX11_put_39 : decode cX11_put 39 = .ok (.aload_n 0, 1) := by decide +kernel
theorem dX11_put_40 : decode cX11_put 40 = .ok (.getfield 69, 3) := by decide +kernel
theorem dX11_put_43 : decode cX11_put 43 = .ok (.iconst 3, 1) := by decide +kernel
theorem dX11_put_44 : decode cX11_put 44 = .ok (.iload_n 1, 1) := by decide +kernel
theorem dX11_put_45 : decode cX11_put 45 = .ok (.imul, 1) := by decide +kernel
theorem dX11_put_46 : decode cX11_put 46 = .ok (.iload_n 2, 1) := by decide +kernel
theorem dX11_put_47 : decode cX11_put 47 = .ok (.iadd, 1) := by decide +kernel
theorem dX11_put_48 : decode cX11_put 48 = .ok (.lload_n 3, 1) := by decide +kernel
theorem dX11_put_49 : decode cX11_put 49 = .ok (.lastore, 1) := by decide +kernel
theorem dX11_put_50 : decode cX11_put 50 = .ok (.iconst 0, 1) := by decide +kernel
theorem dX11_put_51 : decode cX11_put 51 = .ok (.ireturn, 1) := by decide +kernel
theorem dX11_field_0 : decode cX11_field 0 = .ok (.aload_n 0, 1) := by decide +kernel
theorem dX11_field_1 : decode cX11_field 1 = .ok (.iconst 0, 1) := by decide +kernel
theorem dX11_field_2 : decode cX11_field 2 = .ok (.putfield 131, 3) := by decide +kernel
theorem dX11_field_5 : decode cX11_field 5 = .ok (.iload_n 1, 1) := by decide +kernel
theorem dX11_field_6 : decode cX11_field 6 = .ok (.i2l, 1) := by decide +kernel
theorem dX11_field_7 : decode cX11_field 7 = .ok (.lconst 0, 1) := by decide +kernel
theorem dX11_field_8 : decode cX11_field 8 = .ok (.aload_n 0, 1) := by decide +kernel
theorem dX11_field_9 : decode cX11_field 9 = .ok (.getfield 282, 3) := by decide +kernel
theorem dX11_field_12 : decode cX11_field 12 = .ok (.iconst 1, 1) := by decide +kernel
theorem dX11_field_13 : decode cX11_field 13 = .ok (.isub, 1) := by decide +kernel
theorem dX11_field_14 : decode cX11_field 14 = .ok (.i2l, 1) := by decide +kernel
theorem dX11_field_15 : decode cX11_field 15 = .ok (.invokestatic 138, 3) := by decide +kernel
theorem dX11_field_18 : decode cX11_field 18 = .ok (.ifCond .eq 28, 3) := by decide +kernel
theorem dX11_field_21 : decode cX11_field 21 = .ok (.iload_n 2, 1) := by decide +kernel
theorem dX11_field_22 : decode cX11_field 22 = .ok (.i2l, 1) := by decide +kernel
theorem dX11_field_23 : decode cX11_field 23 = .ok (.lconst 0, 1) := by decide +kernel
theorem dX11_field_24 : decode cX11_field 24 = .ok (.ldc2_w 227, 3) := by decide +kernel
theorem dX11_field_27 : decode cX11_field 27 = .ok (.invokestatic 138, 3) := by decide +kernel
theorem dX11_field_30 : decode cX11_field 30 = .ok (.ifCond .eq 16, 3) := by decide +kernel
theorem dX11_field_33 : decode cX11_field 33 = .ok (.aload_n 0, 1) := by decide +kernel
theorem dX11_field_34 : decode cX11_field 34 = .ok (.getfield 69, 3) := by decide +kernel
theorem dX11_field_37 : decode cX11_field 37 = .ok (.iconst 3, 1) := by decide +kernel
theorem dX11_field_38 : decode cX11_field 38 = .ok (.iload_n 1, 1) := by decide +kernel
theorem dX11_field_39 : decode cX11_field 39 = .ok (.imul, 1) := by decide +kernel
theorem dX11_field_40 : decode cX11_field 40 = .ok (.iload_n 2, 1) := by decide +kernel
theorem dX11_field_41 : decode cX11_field 41 = .ok (.iadd, 1) := by decide +kernel
theorem dX11_field_42 : decode cX11_field 42 = .ok (.laload, 1) := by decide +kernel
theorem dX11_field_43 : decode cX11_field 43 = .ok (.goto 4, 3) := by decide +kernel
theorem dX11_field_46 : decode cX11_field 46 = .ok (.lconst 0, 1) := by decide +kernel
theorem dX11_field_47 : decode cX11_field 47 = .ok (.lreturn, 1) := by decide +kernel
theorem dX11_hand_0 : decode cX11_hand 0 = .ok (.aload_n 0, 1) := by decide +kernel
theorem dX11_hand_1 : decode cX11_hand 1 = .ok (.iconst 0, 1) := by decide +kernel
theorem dX11_hand_2 : decode cX11_hand 2 = .ok (.putfield 131, 3) := by decide +kernel
theorem dX11_hand_5 : decode cX11_hand 5 = .ok (.iload_n 1, 1) := by decide +kernel
theorem dX11_hand_6 : decode cX11_hand 6 = .ok (.i2l, 1) := by decide +kernel
theorem dX11_hand_7 : decode cX11_hand 7 = .ok (.lconst 0, 1) := by decide +kernel
theorem dX11_hand_8 : decode cX11_hand 8 = .ok (.ldc2_w 285, 3) := by decide +kernel
theorem dX11_hand_11 : decode cX11_hand 11 = .ok (.invokestatic 138, 3) := by decide +kernel
theorem dX11_hand_14 : decode cX11_hand 14 = .ok (.ifCond .ne 6, 3) := by decide +kernel
theorem dX11_hand_17 : decode cX11_hand 17 = .ok (.bipush (-3), 2) := by decide +kernel
theorem dX11_hand_19 : decode cX11_hand 19 = .ok (.ireturn, 1) := by decide +kernel
theorem dX11_hand_20 : decode cX11_hand 20 = .ok (.aload_n 0, 1) := by decide +kernel
theorem dX11_hand_21 : decode cX11_hand 21 = .ok (.getfield 72, 3) := by decide +kernel
theorem dX11_hand_24 : decode cX11_hand 24 = .ok (.iload_n 1, 1) := by decide +kernel
theorem dX11_hand_25 : decode cX11_hand 25 = .ok (.lload_n 2, 1) := by decide +kernel
theorem dX11_hand_26 : decode cX11_hand 26 = .ok (.lastore, 1) := by decide +kernel
theorem dX11_hand_27 : decode cX11_hand 27 = .ok (.iconst 0, 1) := by decide +kernel
theorem dX11_hand_28 : decode cX11_hand 28 = .ok (.ireturn, 1) := by decide +kernel
theorem dX11_link_0 : decode cX11_link 0 = .ok (.aload_n 0, 1) := by decide +kernel
theorem dX11_link_1 : decode cX11_link 1 = .ok (.aload_n 0, 1) := by decide +kernel
theorem dX11_link_2 : decode cX11_link 2 = .ok (.getfield 111, 3) := by decide +kernel
theorem dX11_link_5 : decode cX11_link 5 = .ok (.aload_n 0, 1) := by decide +kernel
theorem dX11_link_6 : decode cX11_link 6 = .ok (.getfield 287, 3) := by decide +kernel
theorem dX11_link_9 : decode cX11_link 9 = .ok (.iconst 1, 1) := by decide +kernel
theorem dX11_link_10 : decode cX11_link 10 = .ok (.isub, 1) := by decide +kernel
theorem dX11_link_11 : decode cX11_link 11 = .ok (.iaload, 1) := by decide +kernel
theorem dX11_link_12 : decode cX11_link 12 = .ok (.iload_n 1, 1) := by decide +kernel
theorem dX11_link_13 : decode cX11_link 13 = .ok (.invokevirtual 266, 3) := by decide +kernel
theorem dX11_link_16 : decode cX11_link 16 = .ok (.ifCond .ne 5, 3) := by decide +kernel
theorem dX11_link_19 : decode cX11_link 19 = .ok (.iconst 0, 1) := by decide +kernel
theorem dX11_link_20 : decode cX11_link 20 = .ok (.ireturn, 1) := by decide +kernel
theorem dX11_link_21 : decode cX11_link 21 = .ok (.iconst 0, 1) := by decide +kernel
theorem dX11_link_22 : decode cX11_link 22 = .ok (.istore_n 2, 1) := by decide +kernel
theorem dX11_link_23 : decode cX11_link 23 = .ok (.iload_n 2, 1) := by decide +kernel
theorem dX11_link_24 : decode cX11_link 24 = .ok (.iconst 4, 1) := by decide +kernel
theorem dX11_link_25 : decode cX11_link 25 = .ok (.if_icmp .ge 28, 3) := by decide +kernel
theorem dX11_link_28 : decode cX11_link 28 = .ok (.aload_n 0, 1) := by decide +kernel
theorem dX11_link_29 : decode cX11_link 29 = .ok (.getfield 114, 3) := by decide +kernel
theorem dX11_link_32 : decode cX11_link 32 = .ok (.iconst 4, 1) := by decide +kernel
theorem dX11_link_33 : decode cX11_link 33 = .ok (.aload_n 0, 1) := by decide +kernel
theorem dX11_link_34 : decode cX11_link 34 = .ok (.getfield 287, 3) := by decide +kernel
theorem dX11_link_37 : decode cX11_link 37 = .ok (.imul, 1) := by decide +kernel
theorem dX11_link_38 : decode cX11_link 38 = .ok (.iload_n 2, 1) := by decide +kernel
theorem dX11_link_39 : decode cX11_link 39 = .ok (.iadd, 1) := by decide +kernel
theorem dX11_link_40 : decode cX11_link 40 = .ok (.aload_n 0, 1) := by decide +kernel
theorem dX11_link_41 : decode cX11_link 41 = .ok (.getfield 96, 3) := by decide +kernel
theorem dX11_link_44 : decode cX11_link 44 = .ok (.iload_n 2, 1) := by decide +kernel
