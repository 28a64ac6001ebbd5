theorem dL_law_0 : decode code 0 = .ok (.new 8, 3) := by decide +kernel
theorem dL_law_3 : decode code 3 = .ok (.dup, 1) := by decide +kernel
theorem dL_law_4 : decode code 4 = .ok (.invokespecial 41, 3) := by decide +kernel
theorem dL_law_7 : decode code 7 = .ok (.astore_n 1, 1) := by decide +kernel
theorem dL_law_8 : decode code 8 = .ok (.new 42, 3) := by decide +kernel
theorem dL_law_11 : decode code 11 = .ok (.dup, 1) := by decide +kernel
theorem dL_law_12 : decode code 12 = .ok (.invokespecial 44, 3) := by decide +kernel
theorem dL_law_15 : decode code 15 = .ok (.astore_n 2, 1) := by decide +kernel
theorem dL_law_16 : decode code 16 = .ok (.iconst 1, 1) := by decide +kernel
theorem dL_law_17 : decode code 17 = .ok (.newarray .long, 2) := by decide +kernel
theorem dL_law_19 : decode code 19 = .ok (.astore_n 3, 1) := by decide +kernel
theorem dL_law_20 : decode code 20 = .ok (.iconst 0, 1) := by decide +kernel
theorem dL_law_21 : decode code 21 = .ok (.istore 4, 2) := by decide +kernel
theorem dL_law_23 : decode code 23 = .ok (.iload 4, 2) := by decide +kernel
theorem dL_law_25 : decode code 25 = .ok (.aload_n 0, 1) := by decide +kernel
theorem dL_law_26 : decode code 26 = .ok (.arraylength, 1) := by decide +kernel
theorem dL_law_27 : decode code 27 = .ok (.bipush 6, 2) := by decide +kernel
theorem dL_law_29 : decode code 29 = .ok (.isub, 1) := by decide +kernel
theorem dL_law_30 : decode code 30 = .ok (.if_icmp .gt 897, 3) := by decide +kernel
theorem dL_law_33 : decode code 33 = .ok (.aload_n 0, 1) := by decide +kernel
theorem dL_law_34 : decode code 34 = .ok (.iload 4, 2) := by decide +kernel
theorem dL_law_36 : decode code 36 = .ok (.iaload, 1) := by decide +kernel
theorem dL_law_37 : decode code 37 = .ok (.bipush 15, 2) := by decide +kernel
theorem dL_law_39 : decode code 39 = .ok (.iand, 1) := by decide +kernel
theorem dL_law_40 : decode code 40 = .ok (.tableswitch 881 0 11 #[64, 151, 263, 277, 345, 412, 426, 481, 536, 616, 739, 870], 64) := by decide +kernel
theorem dL_law_104 : decode code 104 = .ok (.aload_n 1, 1) := by decide +kernel
theorem dL_law_105 : decode code 105 = .ok (.aload_n 0, 1) := by decide +kernel
theorem dL_law_106 : decode code 106 = .ok (.iload 4, 2) := by decide +kernel
theorem dL_law_108 : decode code 108 = .ok (.iconst 1, 1) := by decide +kernel
theorem dL_law_109 : decode code 109 = .ok (.iadd, 1) := by decide +kernel
theorem dL_law_110 : decode code 110 = .ok (.iaload, 1) := by decide +kernel
theorem dL_law_111 : decode code 111 = .ok (.i2l, 1) := by decide +kernel
theorem dL_law_112 : decode code 112 = .ok (.bipush 32, 2) := by decide +kernel
theorem dL_law_114 : decode code 114 = .ok (.lshl, 1) := by decide +kernel
theorem dL_law_115 : decode code 115 = .ok (.aload_n 0, 1) := by decide +kernel
theorem dL_law_116 : decode code 116 = .ok (.iload 4, 2) := by decide +kernel
theorem dL_law_118 : decode code 118 = .ok (.iconst 2, 1) := by decide +kernel
theorem dL_law_119 : decode code 119 = .ok (.iadd, 1) := by decide +kernel
theorem dL_law_120 : decode code 120 = .ok (.iaload, 1) := by decide +kernel
theorem dL_law_121 : decode code 121 = .ok (.i2l, 1) := by decide +kernel
theorem dL_law_122 : decode code 122 = .ok (.ldc2_w 45, 3) := by decide +kernel
theorem dL_law_125 : decode code 125 = .ok (.land, 1) := by decide +kernel
theorem dL_law_126 : decode code 126 = .ok (.lor, 1) := by decide +kernel
theorem dL_law_127 : decode code 127 = .ok (.aload_n 3, 1) := by decide +kernel
theorem dL_law_128 : decode code 128 = .ok (.invokestatic 47, 3) := by decide +kernel
theorem dL_law_131 : decode code 131 = .ok (.istore 5, 2) := by decide +kernel
theorem dL_law_133 : decode code 133 = .ok (.aload_n 2, 1) := by decide +kernel
theorem dL_law_134 : decode code 134 = .ok (.aload_n 0, 1) := by decide +kernel
theorem dL_law_135 : decode code 135 = .ok (.iload 4, 2) := by decide +kernel
theorem dL_law_137 : decode code 137 = .ok (.iconst 1, 1) := by decide +kernel
theorem dL_law_138 : decode code 138 = .ok (.iadd, 1) := by decide +kernel
theorem dL_law_139 : decode code 139 = .ok (.iaload, 1) := by decide +kernel
theorem dL_law_140 : decode code 140 = .ok (.i2l, 1) := by decide +kernel
theorem dL_law_141 : decode code 141 = .ok (.bipush 32, 2) := by decide +kernel
theorem dL_law_143 : decode code 143 = .ok (.lshl, 1) := by decide +kernel
theorem dL_law_144 : decode code 144 = .ok (.aload_n 0, 1) := by decide +kernel
theorem dL_law_145 : decode code 145 = .ok (.iload 4, 2) := by decide +kernel
theorem dL_law_147 : decode code 147 = .ok (.iconst 2, 1) := by decide +kernel
theorem dL_law_148 : decode code 148 = .ok (.iadd, 1) := by decide +kernel
theorem dL_law_149 : decode code 149 = .ok (.iaload, 1) := by decide +kernel
theorem dL_law_150 : decode code 150 = .ok (.i2l, 1) := by decide +kernel
theorem dL_law_151 : decode code 151 = .ok (.ldc2_w 45, 3) := by decide +kernel
theorem dL_law_154 : decode code 154 = .ok (.land, 1) := by decide +kernel
theorem dL_law_155 : decode code 155 = .ok (.lor, 1) := by decide +kernel
theorem dL_law_156 : decode code 156 = .ok (.invokevirtual 52, 3) := by decide +kernel
theorem dL_law_159 : decode code 159 = .ok (.lstore 6, 2) := by decide +kernel
theorem dL_law_161 : decode code 161 = .ok (.aload_n 2, 1) := by decide +kernel
theorem dL_law_162 : decode code 162 = .ok (.invokevirtual 53, 3) := by decide +kernel
theorem dL_law_165 : decode code 165 = .ok (.iload 5, 2) := by decide +kernel
theorem dL_law_167 : decode code 167 = .ok (.if_icmp .eq 5, 3) := by decide +kernel
theorem dL_law_170 : decode code 170 = .ok (.iconst 0, 1) := by decide +kernel
theorem dL_law_171 : decode code 171 = .ok (.ireturn, 1) := by decide +kernel
theorem dL_law_172 : decode code 172 = .ok (.iload 5, 2) := by decide +kernel
theorem dL_law_174 : decode code 174 = .ok (.ifCond .ne 14, 3) := by decide +kernel
theorem dL_law_177 : decode code 177 = .ok (.aload_n 3, 1) := by decide +kernel
theorem dL_law_178 : decode code 178 = .ok (.iconst 0, 1) := by decide +kernel
theorem dL_law_179 : decode code 179 = .ok (.laload, 1) := by decide +kernel
theorem dL_law_180 : decode code 180 = .ok (.lload 6, 2) := by decide +kernel
theorem dL_law_182 : decode code 182 = .ok (.lcmp, 1) := by decide +kernel
theorem dL_law_183 : decode code 183 = .ok (.ifCond .eq 5, 3) := by decide +kernel
theorem dL_law_186 : decode code 186 = .ok (.iconst 0, 1) := by decide +kernel
theorem dL_law_187 : decode code 187 = .ok (.ireturn, 1) := by decide +kernel
theorem dL_law_188 : decode code 188 = .ok (.goto 733, 3) := by decide +kernel
theorem dL_law_191 : decode code 191 = .ok (.aload_n 1, 1) := by decide +kernel
theorem dL_law_192 : decode code 192 = .ok (.aload_n 0, 1) := by decide +kernel
theorem dL_law_193 : decode code 193 = .ok (.iload 4, 2) := by decide +kernel
theorem dL_law_195 : decode code 195 = .ok (.iconst 1, 1) := by decide +kernel
theorem dL_law_196 : decode code 196 = .ok (.iadd, 1) := by decide +kernel
theorem dL_law_197 : decode code 197 = .ok (.iaload, 1) := by decide +kernel
theorem dL_law_198 : decode code 198 = .ok (.i2l, 1) := by decide +kernel
theorem dL_law_199 : decode code 199 = .ok (.bipush 32, 2) := by decide +kernel
theorem dL_law_201 : decode code 201 = .ok (.lshl, 1) := by decide +kernel
theorem dL_law_202 : decode code 202 = .ok (.aload_n 0, 1) := by decide +kernel
theorem dL_law_203 : decode code 203 = .ok (.iload 4, 2) := by decide +kernel
theorem dL_law_205 : decode code 205 = .ok (.iconst 2, 1) := by decide +kernel
theorem dL_law_206 : decode code 206 = .ok (.iadd, 1) := by decide +kernel
theorem dL_law_207 : decode code 207 = .ok (.iaload, 1) := by decide +kernel
theorem dL_law_208 : decode code 208 = .ok (.i2l, 1) := by decide +kernel
theorem dL_law_209 : decode code 209 = .ok (.ldc2_w 45, 3) := by decide +kernel
theorem dL_law_212 : decode code 212 = .ok (.land, 1) := by decide +kernel
theorem dL_law_213 : decode code 213 = .ok (.lor, 1) := by decide +kernel
theorem dL_law_214 : decode code 214 = .ok (.aload_n 0, 1) := by decide +kernel
theorem dL_law_215 : decode code 215 = .ok (.iload 4, 2) := by decide +kernel
theorem dL_law_217 : decode code 217 = .ok (.iconst 3, 1) := by decide +kernel
theorem dL_law_218 : decode code 218 = .ok (.iadd, 1) := by decide +kernel
theorem dL_law_219 : decode code 219 = .ok (.iaload, 1) := by decide +kernel
theorem dL_law_220 : decode code 220 = .ok (.i2l, 1) := by decide +kernel
theorem dL_law_221 : decode code 221 = .ok (.bipush 32, 2) := by decide +kernel
theorem dL_law_223 : decode code 223 = .ok (.lshl, 1) := by decide +kernel
theorem dL_law_224 : decode code 224 = .ok (.aload_n 0, 1) := by decide +kernel
theorem dL_law_225 : decode code 225 = .ok (.iload 4, 2) := by decide +kernel
theorem dL_law_227 : decode code 227 = .ok (.iconst 4, 1) := by decide +kernel
theorem dL_law_228 : decode code 228 = .ok (.iadd, 1) := by decide +kernel
theorem dL_law_229 : decode code 229 = .ok (.iaload, 1) := by decide +kernel
theorem dL_law_230 : decode code 230 = .ok (.i2l, 1) := by decide +kernel
theorem dL_law_231 : decode code 231 = .ok (.ldc2_w 45, 3) := by decide +kernel
theorem dL_law_234 : decode code 234 = .ok (.land, 1) := by decide +kernel
theorem dL_law_235 : decode code 235 = .ok (.lor, 1) := by decide +kernel
theorem dL_law_236 : decode code 236 = .ok (.invokestatic 57, 3) := by decide +kernel
theorem dL_law_239 : decode code 239 = .ok (.istore 5, 2) := by decide +kernel
theorem dL_law_241 : decode code 241 = .ok (.aload_n 2, 1) := by decide +kernel
theorem dL_law_242 : decode code 242 = .ok (.aload_n 0, 1) := by decide +kernel
theorem dL_law_243 : decode code 243 = .ok (.iload 4, 2) := by decide +kernel
theorem dL_law_245 : decode code 245 = .ok (.iconst 1, 1) := by decide +kernel
theorem dL_law_246 : decode code 246 = .ok (.iadd, 1) := by decide +kernel
theorem dL_law_247 : decode code 247 = .ok (.iaload, 1) := by decide +kernel
theorem dL_law_248 : decode code 248 = .ok (.i2l, 1) := by decide +kernel
theorem dL_law_249 : decode code 249 = .ok (.bipush 32, 2) := by decide +kernel
theorem dL_law_251 : decode code 251 = .ok (.lshl, 1) := by decide +kernel
theorem dL_law_252 : decode code 252 = .ok (.aload_n 0, 1) := by decide +kernel
theorem dL_law_253 : decode code 253 = .ok (.iload 4, 2) := by decide +kernel
theorem dL_law_255 : decode code 255 = .ok (.iconst 2, 1) := by decide +kernel
theorem dL_law_256 : decode code 256 = .ok (.iadd, 1) := by decide +kernel
theorem dL_law_257 : decode code 257 = .ok (.iaload, 1) := by decide +kernel
theorem dL_law_258 : decode code 258 = .ok (.i2l, 1) := by decide +kernel
theorem dL_law_259 : decode code 259 = .ok (.ldc2_w 45, 3) := by decide +kernel
theorem dL_law_262 : decode code 262 = .ok (.land, 1) := by decide +kernel
theorem dL_law_263 : decode code 263 = .ok (.lor, 1) := by decide +kernel
theorem dL_law_264 : decode code 264 = .ok (.aload_n 0, 1) := by decide +kernel
theorem dL_law_265 : decode code 265 = .ok (.iload 4, 2) := by decide +kernel
theorem dL_law_267 : decode code 267 = .ok (.iconst 3, 1) := by decide +kernel
theorem dL_law_268 : decode code 268 = .ok (.iadd, 1) := by decide +kernel
theorem dL_law_269 : decode code 269 = .ok (.iaload, 1) := by decide +kernel
theorem dL_law_270 : decode code 270 = .ok (.i2l, 1) := by decide +kernel
theorem dL_law_271 : decode code 271 = .ok (.bipush 32, 2) := by decide +kernel
theorem dL_law_273 : decode code 273 = .ok (.lshl, 1) := by decide +kernel
theorem dL_law_274 : decode code 274 = .ok (.aload_n 0, 1) := by decide +kernel
theorem dL_law_275 : decode code 275 = .ok (.iload 4, 2) := by decide +kernel
theorem dL_law_277 : decode code 277 = .ok (.iconst 4, 1) := by decide +kernel
theorem dL_law_278 : decode code 278 = .ok (.iadd, 1) := by decide +kernel
theorem dL_law_279 : decode code 279 = .ok (.iaload, 1) := by decide +kernel
theorem dL_law_280 : decode code 280 = .ok (.i2l, 1) := by decide +kernel
theorem dL_law_281 : decode code 281 = .ok (.ldc2_w 45, 3) := by decide +kernel
theorem dL_law_284 : decode code 284 = .ok (.land, 1) := by decide +kernel
theorem dL_law_285 : decode code 285 = .ok (.lor, 1) := by decide +kernel
theorem dL_law_286 : decode code 286 = .ok (.invokevirtual 60, 3) := by decide +kernel
theorem dL_law_289 : decode code 289 = .ok (.aload_n 2, 1) := by decide +kernel
theorem dL_law_290 : decode code 290 = .ok (.invokevirtual 53, 3) := by decide +kernel
theorem dL_law_293 : decode code 293 = .ok (.iload 5, 2) := by decide +kernel
theorem dL_law_295 : decode code 295 = .ok (.if_icmp .eq 5, 3) := by decide +kernel
theorem dL_law_298 : decode code 298 = .ok (.iconst 0, 1) := by decide +kernel
theorem dL_law_299 : decode code 299 = .ok (.ireturn, 1) := by decide +kernel
theorem dL_law_300 : decode code 300 = .ok (.goto 621, 3) := by decide +kernel
theorem dL_law_303 : decode code 303 = .ok (.aload_n 1, 1) := by decide +kernel
theorem dL_law_304 : decode code 304 = .ok (.invokevirtual 61, 3) := by decide +kernel
theorem dL_law_307 : decode code 307 = .ok (.aload_n 2, 1) := by decide +kernel
theorem dL_law_308 : decode code 308 = .ok (.invokevirtual 65, 3) := by decide +kernel
theorem dL_law_311 : decode code 311 = .ok (.lcmp, 1) := by decide +kernel
theorem dL_law_312 : decode code 312 = .ok (.ifCond .eq 609, 3) := by decide +kernel
theorem dL_law_315 : decode code 315 = .ok (.iconst 0, 1) := by decide +kernel
theorem dL_law_316 : decode code 316 = .ok (.ireturn, 1) := by decide +kernel
theorem dL_law_317 : decode code 317 = .ok (.aload_n 1, 1) := by decide +kernel
theorem dL_law_318 : decode code 318 = .ok (.aload_n 0, 1) := by decide +kernel
theorem dL_law_319 : decode code 319 = .ok (.iload 4, 2) := by decide +kernel
theorem dL_law_321 : decode code 321 = .ok (.iconst 1, 1) := by decide +kernel
theorem dL_law_322 : decode code 322 = .ok (.iadd, 1) := by decide +kernel
theorem dL_law_323 : decode code 323 = .ok (.iaload, 1) := by decide +kernel
theorem dL_law_324 : decode code 324 = .ok (.i2l, 1) := by decide +kernel
theorem dL_law_325 : decode code 325 = .ok (.bipush 32, 2) := by decide +kernel
theorem dL_law_327 : decode code 327 = .ok (.lshl, 1) := by decide +kernel
theorem dL_law_328 : decode code 328 = .ok (.aload_n 0, 1) := by decide +kernel
theorem dL_law_329 : decode code 329 = .ok (.iload 4, 2) := by decide +kernel
theorem dL_law_331 : decode code 331 = .ok (.iconst 2, 1) := by decide +kernel
theorem dL_law_332 : decode code 332 = .ok (.iadd, 1) := by decide +kernel
theorem dL_law_333 : decode code 333 = .ok (.iaload, 1) := by decide +kernel
theorem dL_law_334 : decode code 334 = .ok (.i2l, 1) := by decide +kernel
theorem dL_law_335 : decode code 335 = .ok (.ldc2_w 45, 3) := by decide +kernel
theorem dL_law_338 : decode code 338 = .ok (.land, 1) := by decide +kernel
theorem dL_law_339 : decode code 339 = .ok (.lor, 1) := by decide +kernel
theorem dL_law_340 : decode code 340 = .ok (.invokestatic 66, 3) := by decide +kernel
theorem dL_law_343 : decode code 343 = .ok (.istore 5, 2) := by decide +kernel
theorem dL_law_345 : decode code 345 = .ok (.aload_n 2, 1) := by decide +kernel
theorem dL_law_346 : decode code 346 = .ok (.aload_n 0, 1) := by decide +kernel
theorem dL_law_347 : decode code 347 = .ok (.iload 4, 2) := by decide +kernel
theorem dL_law_349 : decode code 349 = .ok (.iconst 1, 1) := by decide +kernel
theorem dL_law_350 : decode code 350 = .ok (.iadd, 1) := by decide +kernel
theorem dL_law_351 : decode code 351 = .ok (.iaload, 1) := by decide +kernel
theorem dL_law_352 : decode code 352 = .ok (.i2l, 1) := by decide +kernel
theorem dL_law_353 : decode code 353 = .ok (.bipush 32, 2) := by decide +kernel
theorem dL_law_355 : decode code 355 = .ok (.lshl, 1) := by decide +kernel
theorem dL_law_356 : decode code 356 = .ok (.aload_n 0, 1) := by decide +kernel
theorem dL_law_357 : decode code 357 = .ok (.iload 4, 2) := by decide +kernel
theorem dL_law_359 : decode code 359 = .ok (.iconst 2, 1) := by decide +kernel
theorem dL_law_360 : decode code 360 = .ok (.iadd, 1) := by decide +kernel
theorem dL_law_361 : decode code 361 = .ok (.iaload, 1) := by decide +kernel
theorem dL_law_362 : decode code 362 = .ok (.i2l, 1) := by decide +kernel
theorem dL_law_363 : decode code 363 = .ok (.ldc2_w 45, 3) := by decide +kernel
theorem dL_law_366 : decode code 366 = .ok (.land, 1) := by decide +kernel
theorem dL_law_367 : decode code 367 = .ok (.lor, 1) := by decide +kernel
theorem dL_law_368 : decode code 368 = .ok (.invokevirtual 69, 3) := by decide +kernel
theorem dL_law_371 : decode code 371 = .ok (.aload_n 2, 1) := by decide +kernel
theorem dL_law_372 : decode code 372 = .ok (.invokevirtual 53, 3) := by decide +kernel
theorem dL_law_375 : decode code 375 = .ok (.iload 5, 2) := by decide +kernel
theorem dL_law_377 : decode code 377 = .ok (.if_icmp .eq 5, 3) := by decide +kernel
theorem dL_law_380 : decode code 380 = .ok (.iconst 0, 1) := by decide +kernel
theorem dL_law_381 : decode code 381 = .ok (.ireturn, 1) := by decide +kernel
theorem dL_law_382 : decode code 382 = .ok (.goto 539, 3) := by decide +kernel
theorem dL_law_385 : decode code 385 = .ok (.aload_n 1, 1) := by decide +kernel
theorem dL_law_386 : decode code 386 = .ok (.aload_n 0, 1) := by decide +kernel
theorem dL_law_387 : decode code 387 = .ok (.iload 4, 2) := by decide +kernel
theorem dL_law_389 : decode code 389 = .ok (.iconst 1, 1) := by decide +kernel
theorem dL_law_390 : decode code 390 = .ok (.iadd, 1) := by decide +kernel
theorem dL_law_391 : decode code 391 = .ok (.iaload, 1) := by decide +kernel
theorem dL_law_392 : decode code 392 = .ok (.ifCond .eq 7, 3) := by decide +kernel
theorem dL_law_395 : decode code 395 = .ok (.iconst 1, 1) := by decide +kernel
theorem dL_law_396 : decode code 396 = .ok (.goto 4, 3) := by decide +kernel
theorem dL_law_399 : decode code 399 = .ok (.iconst 0, 1) := by decide +kernel
theorem dL_law_400 : decode code 400 = .ok (.aload_n 0, 1) := by decide +kernel
theorem dL_law_401 : decode code 401 = .ok (.iload 4, 2) := by decide +kernel
theorem dL_law_403 : decode code 403 = .ok (.iconst 2, 1) := by decide +kernel
theorem dL_law_404 : decode code 404 = .ok (.iadd, 1) := by decide +kernel
theorem dL_law_405 : decode code 405 = .ok (.iaload, 1) := by decide +kernel
theorem dL_law_406 : decode code 406 = .ok (.ifCond .eq 7, 3) := by decide +kernel
theorem dL_law_409 : decode code 409 = .ok (.iconst 1, 1) := by decide +kernel
theorem dL_law_410 : decode code 410 = .ok (.goto 4, 3) := by decide +kernel
theorem dL_law_413 : decode code 413 = .ok (.iconst 0, 1) := by decide +kernel
theorem dL_law_414 : decode code 414 = .ok (.invokevirtual 70, 3) := by decide +kernel
theorem dL_law_417 : decode code 417 = .ok (.aload_n 2, 1) := by decide +kernel
theorem dL_law_418 : decode code 418 = .ok (.aload_n 0, 1) := by decide +kernel
theorem dL_law_419 : decode code 419 = .ok (.iload 4, 2) := by decide +kernel
theorem dL_law_421 : decode code 421 = .ok (.iconst 1, 1) := by decide +kernel
theorem dL_law_422 : decode code 422 = .ok (.iadd, 1) := by decide +kernel
theorem dL_law_423 : decode code 423 = .ok (.iaload, 1) := by decide +kernel
theorem dL_law_424 : decode code 424 = .ok (.ifCond .eq 7, 3) := by decide +kernel
theorem dL_law_427 : decode code 427 = .ok (.iconst 1, 1) := by decide +kernel
theorem dL_law_428 : decode code 428 = .ok (.goto 4, 3) := by decide +kernel
theorem dL_law_431 : decode code 431 = .ok (.iconst 0, 1) := by decide +kernel
theorem dL_law_432 : decode code 432 = .ok (.aload_n 0, 1) := by decide +kernel
theorem dL_law_433 : decode code 433 = .ok (.iload 4, 2) := by decide +kernel
theorem dL_law_435 : decode code 435 = .ok (.iconst 2, 1) := by decide +kernel
theorem dL_law_436 : decode code 436 = .ok (.iadd, 1) := by decide +kernel
theorem dL_law_437 : decode code 437 = .ok (.iaload, 1) := by decide +kernel
theorem dL_law_438 : decode code 438 = .ok (.ifCond .eq 7, 3) := by decide +kernel
theorem dL_law_441 : decode code 441 = .ok (.iconst 1, 1) := by decide +kernel
theorem dL_law_442 : decode code 442 = .ok (.goto 4, 3) := by decide +kernel
theorem dL_law_445 : decode code 445 = .ok (.iconst 0, 1) := by decide +kernel
theorem dL_law_446 : decode code 446 = .ok (.invokevirtual 74, 3) := by decide +kernel
theorem dL_law_449 : decode code 449 = .ok (.goto 472, 3) := by decide +kernel
theorem dL_law_452 : decode code 452 = .ok (.aload_n 1, 1) := by decide +kernel
theorem dL_law_453 : decode code 453 = .ok (.invokevirtual 75, 3) := by decide +kernel
theorem dL_law_456 : decode code 456 = .ok (.aload_n 2, 1) := by decide +kernel
theorem dL_law_457 : decode code 457 = .ok (.invokevirtual 78, 3) := by decide +kernel
theorem dL_law_460 : decode code 460 = .ok (.lcmp, 1) := by decide +kernel
theorem dL_law_461 : decode code 461 = .ok (.ifCond .eq 460, 3) := by decide +kernel
theorem dL_law_464 : decode code 464 = .ok (.iconst 0, 1) := by decide +kernel
theorem dL_law_465 : decode code 465 = .ok (.ireturn, 1) := by decide +kernel
theorem dL_law_466 : decode code 466 = .ok (.aload_n 1, 1) := by decide +kernel
theorem dL_law_467 : decode code 467 = .ok (.aload_n 0, 1) := by decide +kernel
theorem dL_law_468 : decode code 468 = .ok (.iload 4, 2) := by decide +kernel
theorem dL_law_470 : decode code 470 = .ok (.iconst 1, 1) := by decide +kernel
theorem dL_law_471 : decode code 471 = .ok (.iadd, 1) := by decide +kernel
theorem dL_law_472 : decode code 472 = .ok (.iaload, 1) := by decide +kernel
theorem dL_law_473 : decode code 473 = .ok (.i2l, 1) := by decide +kernel
theorem dL_law_474 : decode code 474 = .ok (.bipush 32, 2) := by decide +kernel
theorem dL_law_476 : decode code 476 = .ok (.lshl, 1) := by decide +kernel
theorem dL_law_477 : decode code 477 = .ok (.aload_n 0, 1) := by decide +kernel
theorem dL_law_478 : decode code 478 = .ok (.iload 4, 2) := by decide +kernel
theorem dL_law_480 : decode code 480 = .ok (.iconst 2, 1) := by decide +kernel
theorem dL_law_481 : decode code 481 = .ok (.iadd, 1) := by decide +kernel
theorem dL_law_482 : decode code 482 = .ok (.iaload, 1) := by decide +kernel
theorem dL_law_483 : decode code 483 = .ok (.i2l, 1) := by decide +kernel
theorem dL_law_484 : decode code 484 = .ok (.ldc2_w 45, 3) := by decide +kernel
theorem dL_law_487 : decode code 487 = .ok (.land, 1) := by decide +kernel
theorem dL_law_488 : decode code 488 = .ok (.lor, 1) := by decide +kernel
theorem dL_law_489 : decode code 489 = .ok (.invokevirtual 79, 3) := by decide +kernel
theorem dL_law_492 : decode code 492 = .ok (.aload_n 2, 1) := by decide +kernel
theorem dL_law_493 : decode code 493 = .ok (.aload_n 0, 1) := by decide +kernel
theorem dL_law_494 : decode code 494 = .ok (.iload 4, 2) := by decide +kernel
theorem dL_law_496 : decode code 496 = .ok (.iconst 1, 1) := by decide +kernel
theorem dL_law_497 : decode code 497 = .ok (.iadd, 1) := by decide +kernel
theorem dL_law_498 : decode code 498 = .ok (.iaload, 1) := by decide +kernel
theorem dL_law_499 : decode code 499 = .ok (.i2l, 1) := by decide +kernel
theorem dL_law_500 : decode code 500 = .ok (.bipush 32, 2) := by decide +kernel
theorem dL_law_502 : decode code 502 = .ok (.lshl, 1) := by decide +kernel
theorem dL_law_503 : decode code 503 = .ok (.aload_n 0, 1) := by decide +kernel
theorem dL_law_504 : decode code 504 = .ok (.iload 4, 2) := by decide +kernel
theorem dL_law_506 : decode code 506 = .ok (.iconst 2, 1) := by decide +kernel
theorem dL_law_507 : decode code 507 = .ok (.iadd, 1) := by decide +kernel
theorem dL_law_508 : decode code 508 = .ok (.iaload, 1) := by decide +kernel
theorem dL_law_509 : decode code 509 = .ok (.i2l, 1) := by decide +kernel
theorem dL_law_510 : decode code 510 = .ok (.ldc2_w 45, 3) := by decide +kernel
theorem dL_law_513 : decode code 513 = .ok (.land, 1) := by decide +kernel
theorem dL_law_514 : decode code 514 = .ok (.lor, 1) := by decide +kernel
theorem dL_law_515 : decode code 515 = .ok (.invokevirtual 82, 3) := by decide +kernel
theorem dL_law_518 : decode code 518 = .ok (.goto 403, 3) := by decide +kernel
theorem dL_law_521 : decode code 521 = .ok (.aload_n 1, 1) := by decide +kernel
theorem dL_law_522 : decode code 522 = .ok (.aload_n 0, 1) := by decide +kernel
theorem dL_law_523 : decode code 523 = .ok (.iload 4, 2) := by decide +kernel
theorem dL_law_525 : decode code 525 = .ok (.iconst 1, 1) := by decide +kernel
theorem dL_law_526 : decode code 526 = .ok (.iadd, 1) := by decide +kernel
theorem dL_law_527 : decode code 527 = .ok (.iaload, 1) := by decide +kernel
theorem dL_law_528 : decode code 528 = .ok (.aload_n 3, 1) := by decide +kernel
theorem dL_law_529 : decode code 529 = .ok (.invokestatic 83, 3) := by decide +kernel
theorem dL_law_532 : decode code 532 = .ok (.istore 5, 2) := by decide +kernel
theorem dL_law_534 : decode code 534 = .ok (.aload_n 2, 1) := by decide +kernel
theorem dL_law_535 : decode code 535 = .ok (.aload_n 0, 1) := by decide +kernel
theorem dL_law_536 : decode code 536 = .ok (.iload 4, 2) := by decide +kernel
theorem dL_law_538 : decode code 538 = .ok (.iconst 1, 1) := by decide +kernel
theorem dL_law_539 : decode code 539 = .ok (.iadd, 1) := by decide +kernel
theorem dL_law_540 : decode code 540 = .ok (.iaload, 1) := by decide +kernel
theorem dL_law_541 : decode code 541 = .ok (.invokevirtual 86, 3) := by decide +kernel
theorem dL_law_544 : decode code 544 = .ok (.lstore 6, 2) := by decide +kernel
theorem dL_law_546 : decode code 546 = .ok (.aload_n 2, 1) := by decide +kernel
theorem dL_law_547 : decode code 547 = .ok (.invokevirtual 53, 3) := by decide +kernel
theorem dL_law_550 : decode code 550 = .ok (.iload 5, 2) := by decide +kernel
theorem dL_law_552 : decode code 552 = .ok (.if_icmp .eq 5, 3) := by decide +kernel
theorem dL_law_555 : decode code 555 = .ok (.iconst 0, 1) := by decide +kernel
theorem dL_law_556 : decode code 556 = .ok (.ireturn, 1) := by decide +kernel
theorem dL_law_557 : decode code 557 = .ok (.iload 5, 2) := by decide +kernel
theorem dL_law_559 : decode code 559 = .ok (.ifCond .ne 14, 3) := by decide +kernel
theorem dL_law_562 : decode code 562 = .ok (.aload_n 3, 1) := by decide +kernel
theorem dL_law_563 : decode code 563 = .ok (.iconst 0, 1) := by decide +kernel
theorem dL_law_564 : decode code 564 = .ok (.laload, 1) := by decide +kernel
theorem dL_law_565 : decode code 565 = .ok (.lload 6, 2) := by decide +kernel
theorem dL_law_567 : decode code 567 = .ok (.lcmp, 1) := by decide +kernel
theorem dL_law_568 : decode code 568 = .ok (.ifCond .eq 5, 3) := by decide +kernel
theorem dL_law_571 : decode code 571 = .ok (.iconst 0, 1) := by decide +kernel
theorem dL_law_572 : decode code 572 = .ok (.ireturn, 1) := by decide +kernel
theorem dL_law_573 : decode code 573 = .ok (.goto 348, 3) := by decide +kernel
theorem dL_law_576 : decode code 576 = .ok (.aload_n 1, 1) := by decide +kernel
theorem dL_law_577 : decode code 577 = .ok (.aload_n 0, 1) := by decide +kernel
theorem dL_law_578 : decode code 578 = .ok (.iload 4, 2) := by decide +kernel
theorem dL_law_580 : decode code 580 = .ok (.iconst 1, 1) := by decide +kernel
theorem dL_law_581 : decode code 581 = .ok (.iadd, 1) := by decide +kernel
theorem dL_law_582 : decode code 582 = .ok (.iaload, 1) := by decide +kernel
theorem dL_law_583 : decode code 583 = .ok (.aload_n 0, 1) := by decide +kernel
theorem dL_law_584 : decode code 584 = .ok (.iload 4, 2) := by decide +kernel
theorem dL_law_586 : decode code 586 = .ok (.iconst 2, 1) := by decide +kernel
theorem dL_law_587 : decode code 587 = .ok (.iadd, 1) := by decide +kernel
theorem dL_law_588 : decode code 588 = .ok (.iaload, 1) := by decide +kernel
theorem dL_law_589 : decode code 589 = .ok (.i2l, 1) := by decide +kernel
theorem dL_law_590 : decode code 590 = .ok (.bipush 32, 2) := by decide +kernel
theorem dL_law_592 : decode code 592 = .ok (.lshl, 1) := by decide +kernel
theorem dL_law_593 : decode code 593 = .ok (.aload_n 0, 1) := by decide +kernel
theorem dL_law_594 : decode code 594 = .ok (.iload 4, 2) := by decide +kernel
theorem dL_law_596 : decode code 596 = .ok (.iconst 3, 1) := by decide +kernel
theorem dL_law_597 : decode code 597 = .ok (.iadd, 1) := by decide +kernel
theorem dL_law_598 : decode code 598 = .ok (.iaload, 1) := by decide +kernel
theorem dL_law_599 : decode code 599 = .ok (.i2l, 1) := by decide +kernel
theorem dL_law_600 : decode code 600 = .ok (.ldc2_w 45, 3) := by decide +kernel
theorem dL_law_603 : decode code 603 = .ok (.land, 1) := by decide +kernel
theorem dL_law_604 : decode code 604 = .ok (.lor, 1) := by decide +kernel
theorem dL_law_605 : decode code 605 = .ok (.invokestatic 87, 3) := by decide +kernel
theorem dL_law_608 : decode code 608 = .ok (.istore 5, 2) := by decide +kernel
theorem dL_law_610 : decode code 610 = .ok (.aload_n 2, 1) := by decide +kernel
theorem dL_law_611 : decode code 611 = .ok (.aload_n 0, 1) := by decide +kernel
theorem dL_law_612 : decode code 612 = .ok (.iload 4, 2) := by decide +kernel
theorem dL_law_614 : decode code 614 = .ok (.iconst 1, 1) := by decide +kernel
theorem dL_law_615 : decode code 615 = .ok (.iadd, 1) := by decide +kernel
theorem dL_law_616 : decode code 616 = .ok (.iaload, 1) := by decide +kernel
theorem dL_law_617 : decode code 617 = .ok (.aload_n 0, 1) := by decide +kernel
theorem dL_law_618 : decode code 618 = .ok (.iload 4, 2) := by decide +kernel
theorem dL_law_620 : decode code 620 = .ok (.iconst 2, 1) := by decide +kernel
theorem dL_law_621 : decode code 621 = .ok (.iadd, 1) := by decide +kernel
theorem dL_law_622 : decode code 622 = .ok (.iaload, 1) := by decide +kernel
theorem dL_law_623 : decode code 623 = .ok (.i2l, 1) := by decide +kernel
theorem dL_law_624 : decode code 624 = .ok (.bipush 32, 2) := by decide +kernel
theorem dL_law_626 : decode code 626 = .ok (.lshl, 1) := by decide +kernel
theorem dL_law_627 : decode code 627 = .ok (.aload_n 0, 1) := by decide +kernel
theorem dL_law_628 : decode code 628 = .ok (.iload 4, 2) := by decide +kernel
theorem dL_law_630 : decode code 630 = .ok (.iconst 3, 1) := by decide +kernel
theorem dL_law_631 : decode code 631 = .ok (.iadd, 1) := by decide +kernel
theorem dL_law_632 : decode code 632 = .ok (.iaload, 1) := by decide +kernel
theorem dL_law_633 : decode code 633 = .ok (.i2l, 1) := by decide +kernel
theorem dL_law_634 : decode code 634 = .ok (.ldc2_w 45, 3) := by decide +kernel
theorem dL_law_637 : decode code 637 = .ok (.land, 1) := by decide +kernel
theorem dL_law_638 : decode code 638 = .ok (.lor, 1) := by decide +kernel
theorem dL_law_639 : decode code 639 = .ok (.invokevirtual 90, 3) := by decide +kernel
theorem dL_law_642 : decode code 642 = .ok (.aload_n 2, 1) := by decide +kernel
theorem dL_law_643 : decode code 643 = .ok (.invokevirtual 53, 3) := by decide +kernel
theorem dL_law_646 : decode code 646 = .ok (.iload 5, 2) := by decide +kernel
theorem dL_law_648 : decode code 648 = .ok (.if_icmp .eq 5, 3) := by decide +kernel
theorem dL_law_651 : decode code 651 = .ok (.iconst 0, 1) := by decide +kernel
theorem dL_law_652 : decode code 652 = .ok (.ireturn, 1) := by decide +kernel
theorem dL_law_653 : decode code 653 = .ok (.goto 268, 3) := by decide +kernel
theorem dL_law_656 : decode code 656 = .ok (.aload_n 1, 1) := by decide +kernel
theorem dL_law_657 : decode code 657 = .ok (.aload_n 0, 1) := by decide +kernel
theorem dL_law_658 : decode code 658 = .ok (.iload 4, 2) := by decide +kernel
theorem dL_law_660 : decode code 660 = .ok (.iconst 1, 1) := by decide +kernel
theorem dL_law_661 : decode code 661 = .ok (.iadd, 1) := by decide +kernel
theorem dL_law_662 : decode code 662 = .ok (.iaload, 1) := by decide +kernel
theorem dL_law_663 : decode code 663 = .ok (.i2l, 1) := by decide +kernel
theorem dL_law_664 : decode code 664 = .ok (.bipush 32, 2) := by decide +kernel
theorem dL_law_666 : decode code 666 = .ok (.lshl, 1) := by decide +kernel
theorem dL_law_667 : decode code 667 = .ok (.aload_n 0, 1) := by decide +kernel
theorem dL_law_668 : decode code 668 = .ok (.iload 4, 2) := by decide +kernel
theorem dL_law_670 : decode code 670 = .ok (.iconst 2, 1) := by decide +kernel
theorem dL_law_671 : decode code 671 = .ok (.iadd, 1) := by decide +kernel
theorem dL_law_672 : decode code 672 = .ok (.iaload, 1) := by decide +kernel
theorem dL_law_673 : decode code 673 = .ok (.i2l, 1) := by decide +kernel
theorem dL_law_674 : decode code 674 = .ok (.ldc2_w 45, 3) := by decide +kernel
theorem dL_law_677 : decode code 677 = .ok (.land, 1) := by decide +kernel
theorem dL_law_678 : decode code 678 = .ok (.lor, 1) := by decide +kernel
theorem dL_law_679 : decode code 679 = .ok (.aload_n 0, 1) := by decide +kernel
theorem dL_law_680 : decode code 680 = .ok (.iload 4, 2) := by decide +kernel
theorem dL_law_682 : decode code 682 = .ok (.iconst 3, 1) := by decide +kernel
theorem dL_law_683 : decode code 683 = .ok (.iadd, 1) := by decide +kernel
theorem dL_law_684 : decode code 684 = .ok (.iaload, 1) := by decide +kernel
theorem dL_law_685 : decode code 685 = .ok (.aload_n 0, 1) := by decide +kernel
theorem dL_law_686 : decode code 686 = .ok (.iload 4, 2) := by decide +kernel
theorem dL_law_688 : decode code 688 = .ok (.iconst 4, 1) := by decide +kernel
theorem dL_law_689 : decode code 689 = .ok (.iadd, 1) := by decide +kernel
theorem dL_law_690 : decode code 690 = .ok (.iaload, 1) := by decide +kernel
theorem dL_law_691 : decode code 691 = .ok (.aload_n 0, 1) := by decide +kernel
theorem dL_law_692 : decode code 692 = .ok (.iload 4, 2) := by decide +kernel
theorem dL_law_694 : decode code 694 = .ok (.iconst 5, 1) := by decide +kernel
theorem dL_law_695 : decode code 695 = .ok (.iadd, 1) := by decide +kernel
theorem dL_law_696 : decode code 696 = .ok (.iaload, 1) := by decide +kernel
theorem dL_law_697 : decode code 697 = .ok (.aload_n 3, 1) := by decide +kernel
theorem dL_law_698 : decode code 698 = .ok (.invokestatic 91, 3) := by decide +kernel
theorem dL_law_701 : decode code 701 = .ok (.istore 5, 2) := by decide +kernel
theorem dL_law_703 : decode code 703 = .ok (.aload_n 2, 1) := by decide +kernel
theorem dL_law_704 : decode code 704 = .ok (.aload_n 0, 1) := by decide +kernel
theorem dL_law_705 : decode code 705 = .ok (.iload 4, 2) := by decide +kernel
theorem dL_law_707 : decode code 707 = .ok (.iconst 1, 1) := by decide +kernel
theorem dL_law_708 : decode code 708 = .ok (.iadd, 1) := by decide +kernel
theorem dL_law_709 : decode code 709 = .ok (.iaload, 1) := by decide +kernel
theorem dL_law_710 : decode code 710 = .ok (.i2l, 1) := by decide +kernel
theorem dL_law_711 : decode code 711 = .ok (.bipush 32, 2) := by decide +kernel
theorem dL_law_713 : decode code 713 = .ok (.lshl, 1) := by decide +kernel
theorem dL_law_714 : decode code 714 = .ok (.aload_n 0, 1) := by decide +kernel
theorem dL_law_715 : decode code 715 = .ok (.iload 4, 2) := by decide +kernel
theorem dL_law_717 : decode code 717 = .ok (.iconst 2, 1) := by decide +kernel
theorem dL_law_718 : decode code 718 = .ok (.iadd, 1) := by decide +kernel
theorem dL_law_719 : decode code 719 = .ok (.iaload, 1) := by decide +kernel
theorem dL_law_720 : decode code 720 = .ok (.i2l, 1) := by decide +kernel
theorem dL_law_721 : decode code 721 = .ok (.ldc2_w 45, 3) := by decide +kernel
theorem dL_law_724 : decode code 724 = .ok (.land, 1) := by decide +kernel
theorem dL_law_725 : decode code 725 = .ok (.lor, 1) := by decide +kernel
theorem dL_law_726 : decode code 726 = .ok (.aload_n 0, 1) := by decide +kernel
theorem dL_law_727 : decode code 727 = .ok (.iload 4, 2) := by decide +kernel
theorem dL_law_729 : decode code 729 = .ok (.iconst 3, 1) := by decide +kernel
theorem dL_law_730 : decode code 730 = .ok (.iadd, 1) := by decide +kernel
theorem dL_law_731 : decode code 731 = .ok (.iaload, 1) := by decide +kernel
theorem dL_law_732 : decode code 732 = .ok (.aload_n 0, 1) := by decide +kernel
theorem dL_law_733 : decode code 733 = .ok (.iload 4, 2) := by decide +kernel
theorem dL_law_735 : decode code 735 = .ok (.iconst 4, 1) := by decide +kernel
theorem dL_law_736 : decode code 736 = .ok (.iadd, 1) := by decide +kernel
theorem dL_law_737 : decode code 737 = .ok (.iaload, 1) := by decide +kernel
theorem dL_law_738 : decode code 738 = .ok (.aload_n 0, 1) := by decide +kernel
theorem dL_law_739 : decode code 739 = .ok (.iload 4, 2) := by decide +kernel
theorem dL_law_741 : decode code 741 = .ok (.iconst 5, 1) := by decide +kernel
theorem dL_law_742 : decode code 742 = .ok (.iadd, 1) := by decide +kernel
theorem dL_law_743 : decode code 743 = .ok (.iaload, 1) := by decide +kernel
theorem dL_law_744 : decode code 744 = .ok (.invokevirtual 94, 3) := by decide +kernel
theorem dL_law_747 : decode code 747 = .ok (.lstore 6, 2) := by decide +kernel
theorem dL_law_749 : decode code 749 = .ok (.aload_n 2, 1) := by decide +kernel
theorem dL_law_750 : decode code 750 = .ok (.invokevirtual 53, 3) := by decide +kernel
theorem dL_law_753 : decode code 753 = .ok (.iload 5, 2) := by decide +kernel
theorem dL_law_755 : decode code 755 = .ok (.if_icmp .eq 5, 3) := by decide +kernel
theorem dL_law_758 : decode code 758 = .ok (.iconst 0, 1) := by decide +kernel
theorem dL_law_759 : decode code 759 = .ok (.ireturn, 1) := by decide +kernel
theorem dL_law_760 : decode code 760 = .ok (.iload 5, 2) := by decide +kernel
theorem dL_law_762 : decode code 762 = .ok (.ifCond .ne 14, 3) := by decide +kernel
theorem dL_law_765 : decode code 765 = .ok (.aload_n 3, 1) := by decide +kernel
theorem dL_law_766 : decode code 766 = .ok (.iconst 0, 1) := by decide +kernel
theorem dL_law_767 : decode code 767 = .ok (.laload, 1) := by decide +kernel
theorem dL_law_768 : decode code 768 = .ok (.lload 6, 2) := by decide +kernel
theorem dL_law_770 : decode code 770 = .ok (.lcmp, 1) := by decide +kernel
theorem dL_law_771 : decode code 771 = .ok (.ifCond .eq 5, 3) := by decide +kernel
theorem dL_law_774 : decode code 774 = .ok (.iconst 0, 1) := by decide +kernel
theorem dL_law_775 : decode code 775 = .ok (.ireturn, 1) := by decide +kernel
theorem dL_law_776 : decode code 776 = .ok (.goto 145, 3) := by decide +kernel
theorem dL_law_779 : decode code 779 = .ok (.aload_n 1, 1) := by decide +kernel
theorem dL_law_780 : decode code 780 = .ok (.aload_n 0, 1) := by decide +kernel
theorem dL_law_781 : decode code 781 = .ok (.iload 4, 2) := by decide +kernel
theorem dL_law_783 : decode code 783 = .ok (.iconst 1, 1) := by decide +kernel
theorem dL_law_784 : decode code 784 = .ok (.iadd, 1) := by decide +kernel
theorem dL_law_785 : decode code 785 = .ok (.iaload, 1) := by decide +kernel
theorem dL_law_786 : decode code 786 = .ok (.i2l, 1) := by decide +kernel
theorem dL_law_787 : decode code 787 = .ok (.bipush 32, 2) := by decide +kernel
theorem dL_law_789 : decode code 789 = .ok (.lshl, 1) := by decide +kernel
theorem dL_law_790 : decode code 790 = .ok (.aload_n 0, 1) := by decide +kernel
theorem dL_law_791 : decode code 791 = .ok (.iload 4, 2) := by decide +kernel
theorem dL_law_793 : decode code 793 = .ok (.iconst 2, 1) := by decide +kernel
theorem dL_law_794 : decode code 794 = .ok (.iadd, 1) := by decide +kernel
theorem dL_law_795 : decode code 795 = .ok (.iaload, 1) := by decide +kernel
theorem dL_law_796 : decode code 796 = .ok (.i2l, 1) := by decide +kernel
theorem dL_law_797 : decode code 797 = .ok (.ldc2_w 45, 3) := by decide +kernel
theorem dL_law_800 : decode code 800 = .ok (.land, 1) := by decide +kernel
theorem dL_law_801 : decode code 801 = .ok (.lor, 1) := by decide +kernel
theorem dL_law_802 : decode code 802 = .ok (.aload_n 0, 1) := by decide +kernel
theorem dL_law_803 : decode code 803 = .ok (.iload 4, 2) := by decide +kernel
theorem dL_law_805 : decode code 805 = .ok (.iconst 3, 1) := by decide +kernel
theorem dL_law_806 : decode code 806 = .ok (.iadd, 1) := by decide +kernel
theorem dL_law_807 : decode code 807 = .ok (.iaload, 1) := by decide +kernel
theorem dL_law_808 : decode code 808 = .ok (.aload_n 0, 1) := by decide +kernel
theorem dL_law_809 : decode code 809 = .ok (.iload 4, 2) := by decide +kernel
theorem dL_law_811 : decode code 811 = .ok (.iconst 4, 1) := by decide +kernel
theorem dL_law_812 : decode code 812 = .ok (.iadd, 1) := by decide +kernel
theorem dL_law_813 : decode code 813 = .ok (.iaload, 1) := by decide +kernel
theorem dL_law_814 : decode code 814 = .ok (.aload_n 0, 1) := by decide +kernel
theorem dL_law_815 : decode code 815 = .ok (.iload 4, 2) := by decide +kernel
theorem dL_law_817 : decode code 817 = .ok (.iconst 5, 1) := by decide +kernel
theorem dL_law_818 : decode code 818 = .ok (.iadd, 1) := by decide +kernel
theorem dL_law_819 : decode code 819 = .ok (.iaload, 1) := by decide +kernel
theorem dL_law_820 : decode code 820 = .ok (.aload_n 3, 1) := by decide +kernel
theorem dL_law_821 : decode code 821 = .ok (.invokestatic 95, 3) := by decide +kernel
theorem dL_law_824 : decode code 824 = .ok (.istore 5, 2) := by decide +kernel
theorem dL_law_826 : decode code 826 = .ok (.aload_n 2, 1) := by decide +kernel
theorem dL_law_827 : decode code 827 = .ok (.aload_n 0, 1) := by decide +kernel
theorem dL_law_828 : decode code 828 = .ok (.iload 4, 2) := by decide +kernel
theorem dL_law_830 : decode code 830 = .ok (.iconst 1, 1) := by decide +kernel
theorem dL_law_831 : decode code 831 = .ok (.iadd, 1) := by decide +kernel
theorem dL_law_832 : decode code 832 = .ok (.iaload, 1) := by decide +kernel
theorem dL_law_833 : decode code 833 = .ok (.i2l, 1) := by decide +kernel
theorem dL_law_834 : decode code 834 = .ok (.bipush 32, 2) := by decide +kernel
theorem dL_law_836 : decode code 836 = .ok (.lshl, 1) := by decide +kernel
theorem dL_law_837 : decode code 837 = .ok (.aload_n 0, 1) := by decide +kernel
theorem dL_law_838 : decode code 838 = .ok (.iload 4, 2) := by decide +kernel
theorem dL_law_840 : decode code 840 = .ok (.iconst 2, 1) := by decide +kernel
theorem dL_law_841 : decode code 841 = .ok (.iadd, 1) := by decide +kernel
theorem dL_law_842 : decode code 842 = .ok (.iaload, 1) := by decide +kernel
theorem dL_law_843 : decode code 843 = .ok (.i2l, 1) := by decide +kernel
theorem dL_law_844 : decode code 844 = .ok (.ldc2_w 45, 3) := by decide +kernel
theorem dL_law_847 : decode code 847 = .ok (.land, 1) := by decide +kernel
theorem dL_law_848 : decode code 848 = .ok (.lor, 1) := by decide +kernel
theorem dL_law_849 : decode code 849 = .ok (.aload_n 0, 1) := by decide +kernel
theorem dL_law_850 : decode code 850 = .ok (.iload 4, 2) := by decide +kernel
theorem dL_law_852 : decode code 852 = .ok (.iconst 3, 1) := by decide +kernel
theorem dL_law_853 : decode code 853 = .ok (.iadd, 1) := by decide +kernel
theorem dL_law_854 : decode code 854 = .ok (.iaload, 1) := by decide +kernel
theorem dL_law_855 : decode code 855 = .ok (.aload_n 0, 1) := by decide +kernel
theorem dL_law_856 : decode code 856 = .ok (.iload 4, 2) := by decide +kernel
theorem dL_law_858 : decode code 858 = .ok (.iconst 4, 1) := by decide +kernel
theorem dL_law_859 : decode code 859 = .ok (.iadd, 1) := by decide +kernel
theorem dL_law_860 : decode code 860 = .ok (.iaload, 1) := by decide +kernel
theorem dL_law_861 : decode code 861 = .ok (.aload_n 0, 1) := by decide +kernel
theorem dL_law_862 : decode code 862 = .ok (.iload 4, 2) := by decide +kernel
theorem dL_law_864 : decode code 864 = .ok (.iconst 5, 1) := by decide +kernel
theorem dL_law_865 : decode code 865 = .ok (.iadd, 1) := by decide +kernel
theorem dL_law_866 : decode code 866 = .ok (.iaload, 1) := by decide +kernel
theorem dL_law_867 : decode code 867 = .ok (.invokevirtual 97, 3) := by decide +kernel
theorem dL_law_870 : decode code 870 = .ok (.istore 6, 2) := by decide +kernel
theorem dL_law_872 : decode code 872 = .ok (.aload_n 2, 1) := by decide +kernel
theorem dL_law_873 : decode code 873 = .ok (.invokevirtual 53, 3) := by decide +kernel
theorem dL_law_876 : decode code 876 = .ok (.iload 5, 2) := by decide +kernel
theorem dL_law_878 : decode code 878 = .ok (.if_icmp .eq 5, 3) := by decide +kernel
theorem dL_law_881 : decode code 881 = .ok (.iconst 0, 1) := by decide +kernel
theorem dL_law_882 : decode code 882 = .ok (.ireturn, 1) := by decide +kernel
theorem dL_law_883 : decode code 883 = .ok (.iload 5, 2) := by decide +kernel
theorem dL_law_885 : decode code 885 = .ok (.ifCond .ne 22, 3) := by decide +kernel
theorem dL_law_888 : decode code 888 = .ok (.aload_n 3, 1) := by decide +kernel
theorem dL_law_889 : decode code 889 = .ok (.iconst 0, 1) := by decide +kernel
theorem dL_law_890 : decode code 890 = .ok (.laload, 1) := by decide +kernel
theorem dL_law_891 : decode code 891 = .ok (.iload 6, 2) := by decide +kernel
theorem dL_law_893 : decode code 893 = .ok (.ifCond .eq 7, 3) := by decide +kernel
theorem dL_law_896 : decode code 896 = .ok (.lconst 1, 1) := by decide +kernel
theorem dL_law_897 : decode code 897 = .ok (.goto 4, 3) := by decide +kernel
theorem dL_law_900 : decode code 900 = .ok (.lconst 0, 1) := by decide +kernel
theorem dL_law_901 : decode code 901 = .ok (.lcmp, 1) := by decide +kernel
theorem dL_law_902 : decode code 902 = .ok (.ifCond .eq 5, 3) := by decide +kernel
theorem dL_law_905 : decode code 905 = .ok (.iconst 0, 1) := by decide +kernel
theorem dL_law_906 : decode code 906 = .ok (.ireturn, 1) := by decide +kernel
theorem dL_law_907 : decode code 907 = .ok (.goto 14, 3) := by decide +kernel
theorem dL_law_910 : decode code 910 = .ok (.aload_n 1, 1) := by decide +kernel
theorem dL_law_911 : decode code 911 = .ok (.invokevirtual 98, 3) := by decide +kernel
theorem dL_law_914 : decode code 914 = .ok (.aload_n 2, 1) := by decide +kernel
theorem dL_law_915 : decode code 915 = .ok (.invokevirtual 101, 3) := by decide +kernel
theorem dL_law_918 : decode code 918 = .ok (.goto 3, 3) := by decide +kernel
theorem dL_law_921 : decode code 921 = .ok (.iinc 4 6, 3) := by decide +kernel
theorem dL_law_924 : decode code 924 = .ok (.goto (-901), 3) := by decide +kernel
theorem dL_law_927 : decode code 927 = .ok (.iconst 1, 1) := by decide +kernel
theorem dL_law_928 : decode code 928 = .ok (.ireturn, 1) := by decide +kernel
