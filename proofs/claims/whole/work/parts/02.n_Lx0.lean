theorem d_La_law_0 : decode code 0 = .ok (.new 8, 3) := by decide +kernel
theorem d_La_law_3 : decode code 3 = .ok (.dup, 1) := by decide +kernel
theorem d_La_law_4 : decode code 4 = .ok (.invokespecial 61, 3) := by decide +kernel
theorem d_La_law_7 : decode code 7 = .ok (.astore_n 1, 1) := by decide +kernel
theorem d_La_law_8 : decode code 8 = .ok (.new 62, 3) := by decide +kernel
theorem d_La_law_11 : decode code 11 = .ok (.dup, 1) := by decide +kernel
theorem d_La_law_12 : decode code 12 = .ok (.invokespecial 64, 3) := by decide +kernel
theorem d_La_law_15 : decode code 15 = .ok (.astore_n 2, 1) := by decide +kernel
theorem d_La_law_16 : decode code 16 = .ok (.iconst 1, 1) := by decide +kernel
theorem d_La_law_17 : decode code 17 = .ok (.newarray .long, 2) := by decide +kernel
theorem d_La_law_19 : decode code 19 = .ok (.astore_n 3, 1) := by decide +kernel
theorem d_La_law_20 : decode code 20 = .ok (.iconst 0, 1) := by decide +kernel
theorem d_La_law_21 : decode code 21 = .ok (.istore 4, 2) := by decide +kernel
theorem d_La_law_23 : decode code 23 = .ok (.iload 4, 2) := by decide +kernel
theorem d_La_law_25 : decode code 25 = .ok (.aload_n 0, 1) := by decide +kernel
theorem d_La_law_26 : decode code 26 = .ok (.arraylength, 1) := by decide +kernel
theorem d_La_law_27 : decode code 27 = .ok (.bipush 6, 2) := by decide +kernel
theorem d_La_law_29 : decode code 29 = .ok (.isub, 1) := by decide +kernel
theorem d_La_law_30 : decode code 30 = .ok (.if_icmp .gt 1193, 3) := by decide +kernel
theorem d_La_law_33 : decode code 33 = .ok (.aload_n 0, 1) := by decide +kernel
theorem d_La_law_34 : decode code 34 = .ok (.iload 4, 2) := by decide +kernel
theorem d_La_law_36 : decode code 36 = .ok (.iaload, 1) := by decide +kernel
theorem d_La_law_37 : decode code 37 = .ok (.bipush 31, 2) := by decide +kernel
theorem d_La_law_39 : decode code 39 = .ok (.iand, 1) := by decide +kernel
theorem d_La_law_40 : decode code 40 = .ok (.tableswitch 1177 0 16 #[84, 171, 227, 295, 375, 450, 569, 720, 745, 789, 880, 893, 961, 1029, 1128, 1141, 1166], 84) := by decide +kernel
theorem d_La_law_124 : decode code 124 = .ok (.aload_n 1, 1) := by decide +kernel
theorem d_La_law_125 : decode code 125 = .ok (.aload_n 0, 1) := by decide +kernel
theorem d_La_law_126 : decode code 126 = .ok (.iload 4, 2) := by decide +kernel
theorem d_La_law_128 : decode code 128 = .ok (.iconst 1, 1) := by decide +kernel
theorem d_La_law_129 : decode code 129 = .ok (.iadd, 1) := by decide +kernel
theorem d_La_law_130 : decode code 130 = .ok (.iaload, 1) := by decide +kernel
theorem d_La_law_131 : decode code 131 = .ok (.aload_n 0, 1) := by decide +kernel
theorem d_La_law_132 : decode code 132 = .ok (.iload 4, 2) := by decide +kernel
theorem d_La_law_134 : decode code 134 = .ok (.iconst 2, 1) := by decide +kernel
theorem d_La_law_135 : decode code 135 = .ok (.iadd, 1) := by decide +kernel
theorem d_La_law_136 : decode code 136 = .ok (.iaload, 1) := by decide +kernel
theorem d_La_law_137 : decode code 137 = .ok (.aload_n 0, 1) := by decide +kernel
theorem d_La_law_138 : decode code 138 = .ok (.iload 4, 2) := by decide +kernel
theorem d_La_law_140 : decode code 140 = .ok (.iconst 3, 1) := by decide +kernel
theorem d_La_law_141 : decode code 141 = .ok (.iadd, 1) := by decide +kernel
theorem d_La_law_142 : decode code 142 = .ok (.iaload, 1) := by decide +kernel
theorem d_La_law_143 : decode code 143 = .ok (.aload_n 3, 1) := by decide +kernel
theorem d_La_law_144 : decode code 144 = .ok (.invokestatic 65, 3) := by decide +kernel
theorem d_La_law_147 : decode code 147 = .ok (.istore 5, 2) := by decide +kernel
theorem d_La_law_149 : decode code 149 = .ok (.aload_n 2, 1) := by decide +kernel
theorem d_La_law_150 : decode code 150 = .ok (.aload_n 0, 1) := by decide +kernel
theorem d_La_law_151 : decode code 151 = .ok (.iload 4, 2) := by decide +kernel
theorem d_La_law_153 : decode code 153 = .ok (.iconst 1, 1) := by decide +kernel
theorem d_La_law_154 : decode code 154 = .ok (.iadd, 1) := by decide +kernel
theorem d_La_law_155 : decode code 155 = .ok (.iaload, 1) := by decide +kernel
theorem d_La_law_156 : decode code 156 = .ok (.aload_n 0, 1) := by decide +kernel
theorem d_La_law_157 : decode code 157 = .ok (.iload 4, 2) := by decide +kernel
theorem d_La_law_159 : decode code 159 = .ok (.iconst 2, 1) := by decide +kernel
theorem d_La_law_160 : decode code 160 = .ok (.iadd, 1) := by decide +kernel
theorem d_La_law_161 : decode code 161 = .ok (.iaload, 1) := by decide +kernel
theorem d_La_law_162 : decode code 162 = .ok (.aload_n 0, 1) := by decide +kernel
theorem d_La_law_163 : decode code 163 = .ok (.iload 4, 2) := by decide +kernel
theorem d_La_law_165 : decode code 165 = .ok (.iconst 3, 1) := by decide +kernel
theorem d_La_law_166 : decode code 166 = .ok (.iadd, 1) := by decide +kernel
theorem d_La_law_167 : decode code 167 = .ok (.iaload, 1) := by decide +kernel
theorem d_La_law_168 : decode code 168 = .ok (.invokevirtual 70, 3) := by decide +kernel
theorem d_La_law_171 : decode code 171 = .ok (.istore 6, 2) := by decide +kernel
theorem d_La_law_173 : decode code 173 = .ok (.aload_n 2, 1) := by decide +kernel
theorem d_La_law_174 : decode code 174 = .ok (.invokevirtual 71, 3) := by decide +kernel
theorem d_La_law_177 : decode code 177 = .ok (.iload 5, 2) := by decide +kernel
theorem d_La_law_179 : decode code 179 = .ok (.if_icmp .eq 5, 3) := by decide +kernel
theorem d_La_law_182 : decode code 182 = .ok (.iconst 0, 1) := by decide +kernel
theorem d_La_law_183 : decode code 183 = .ok (.ireturn, 1) := by decide +kernel
theorem d_La_law_184 : decode code 184 = .ok (.iload 5, 2) := by decide +kernel
theorem d_La_law_186 : decode code 186 = .ok (.ifCond .ne 22, 3) := by decide +kernel
theorem d_La_law_189 : decode code 189 = .ok (.aload_n 3, 1) := by decide +kernel
theorem d_La_law_190 : decode code 190 = .ok (.iconst 0, 1) := by decide +kernel
theorem d_La_law_191 : decode code 191 = .ok (.laload, 1) := by decide +kernel
theorem d_La_law_192 : decode code 192 = .ok (.iload 6, 2) := by decide +kernel
theorem d_La_law_194 : decode code 194 = .ok (.ifCond .eq 7, 3) := by decide +kernel
theorem d_La_law_197 : decode code 197 = .ok (.lconst 1, 1) := by decide +kernel
theorem d_La_law_198 : decode code 198 = .ok (.goto 4, 3) := by decide +kernel
theorem d_La_law_201 : decode code 201 = .ok (.lconst 0, 1) := by decide +kernel
theorem d_La_law_202 : decode code 202 = .ok (.lcmp, 1) := by decide +kernel
theorem d_La_law_203 : decode code 203 = .ok (.ifCond .eq 5, 3) := by decide +kernel
theorem d_La_law_206 : decode code 206 = .ok (.iconst 0, 1) := by decide +kernel
theorem d_La_law_207 : decode code 207 = .ok (.ireturn, 1) := by decide +kernel
theorem d_La_law_208 : decode code 208 = .ok (.goto 1009, 3) := by decide +kernel
theorem d_La_law_211 : decode code 211 = .ok (.aload_n 1, 1) := by decide +kernel
theorem d_La_law_212 : decode code 212 = .ok (.aload_n 0, 1) := by decide +kernel
theorem d_La_law_213 : decode code 213 = .ok (.iload 4, 2) := by decide +kernel
theorem d_La_law_215 : decode code 215 = .ok (.iconst 1, 1) := by decide +kernel
theorem d_La_law_216 : decode code 216 = .ok (.iadd, 1) := by decide +kernel
theorem d_La_law_217 : decode code 217 = .ok (.iaload, 1) := by decide +kernel
theorem d_La_law_218 : decode code 218 = .ok (.aload_n 3, 1) := by decide +kernel
theorem d_La_law_219 : decode code 219 = .ok (.invokestatic 74, 3) := by decide +kernel
theorem d_La_law_222 : decode code 222 = .ok (.istore 5, 2) := by decide +kernel
theorem d_La_law_224 : decode code 224 = .ok (.aload_n 2, 1) := by decide +kernel
theorem d_La_law_225 : decode code 225 = .ok (.aload_n 0, 1) := by decide +kernel
theorem d_La_law_226 : decode code 226 = .ok (.iload 4, 2) := by decide +kernel
theorem d_La_law_228 : decode code 228 = .ok (.iconst 1, 1) := by decide +kernel
theorem d_La_law_229 : decode code 229 = .ok (.iadd, 1) := by decide +kernel
theorem d_La_law_230 : decode code 230 = .ok (.iaload, 1) := by decide +kernel
theorem d_La_law_231 : decode code 231 = .ok (.invokevirtual 77, 3) := by decide +kernel
theorem d_La_law_234 : decode code 234 = .ok (.istore 6, 2) := by decide +kernel
theorem d_La_law_236 : decode code 236 = .ok (.aload_n 2, 1) := by decide +kernel
theorem d_La_law_237 : decode code 237 = .ok (.invokevirtual 71, 3) := by decide +kernel
theorem d_La_law_240 : decode code 240 = .ok (.iload 5, 2) := by decide +kernel
theorem d_La_law_242 : decode code 242 = .ok (.if_icmp .eq 5, 3) := by decide +kernel
theorem d_La_law_245 : decode code 245 = .ok (.iconst 0, 1) := by decide +kernel
theorem d_La_law_246 : decode code 246 = .ok (.ireturn, 1) := by decide +kernel
theorem d_La_law_247 : decode code 247 = .ok (.iload 5, 2) := by decide +kernel
theorem d_La_law_249 : decode code 249 = .ok (.ifCond .ne 15, 3) := by decide +kernel
theorem d_La_law_252 : decode code 252 = .ok (.aload_n 3, 1) := by decide +kernel
theorem d_La_law_253 : decode code 253 = .ok (.iconst 0, 1) := by decide +kernel
theorem d_La_law_254 : decode code 254 = .ok (.laload, 1) := by decide +kernel
theorem d_La_law_255 : decode code 255 = .ok (.iload 6, 2) := by decide +kernel
theorem d_La_law_257 : decode code 257 = .ok (.i2l, 1) := by decide +kernel
theorem d_La_law_258 : decode code 258 = .ok (.lcmp, 1) := by decide +kernel
theorem d_La_law_259 : decode code 259 = .ok (.ifCond .eq 5, 3) := by decide +kernel
theorem d_La_law_262 : decode code 262 = .ok (.iconst 0, 1) := by decide +kernel
theorem d_La_law_263 : decode code 263 = .ok (.ireturn, 1) := by decide +kernel
theorem d_La_law_264 : decode code 264 = .ok (.goto 953, 3) := by decide +kernel
theorem d_La_law_267 : decode code 267 = .ok (.aload_n 1, 1) := by decide +kernel
theorem d_La_law_268 : decode code 268 = .ok (.aload_n 0, 1) := by decide +kernel
theorem d_La_law_269 : decode code 269 = .ok (.iload 4, 2) := by decide +kernel
theorem d_La_law_271 : decode code 271 = .ok (.iconst 1, 1) := by decide +kernel
theorem d_La_law_272 : decode code 272 = .ok (.iadd, 1) := by decide +kernel
theorem d_La_law_273 : decode code 273 = .ok (.iaload, 1) := by decide +kernel
theorem d_La_law_274 : decode code 274 = .ok (.aload_n 0, 1) := by decide +kernel
theorem d_La_law_275 : decode code 275 = .ok (.iload 4, 2) := by decide +kernel
theorem d_La_law_277 : decode code 277 = .ok (.iconst 2, 1) := by decide +kernel
theorem d_La_law_278 : decode code 278 = .ok (.iadd, 1) := by decide +kernel
theorem d_La_law_279 : decode code 279 = .ok (.iaload, 1) := by decide +kernel
theorem d_La_law_280 : decode code 280 = .ok (.aload_n 3, 1) := by decide +kernel
theorem d_La_law_281 : decode code 281 = .ok (.invokestatic 78, 3) := by decide +kernel
theorem d_La_law_284 : decode code 284 = .ok (.istore 5, 2) := by decide +kernel
theorem d_La_law_286 : decode code 286 = .ok (.aload_n 2, 1) := by decide +kernel
theorem d_La_law_287 : decode code 287 = .ok (.aload_n 0, 1) := by decide +kernel
theorem d_La_law_288 : decode code 288 = .ok (.iload 4, 2) := by decide +kernel
theorem d_La_law_290 : decode code 290 = .ok (.iconst 1, 1) := by decide +kernel
theorem d_La_law_291 : decode code 291 = .ok (.iadd, 1) := by decide +kernel
theorem d_La_law_292 : decode code 292 = .ok (.iaload, 1) := by decide +kernel
theorem d_La_law_293 : decode code 293 = .ok (.aload_n 0, 1) := by decide +kernel
theorem d_La_law_294 : decode code 294 = .ok (.iload 4, 2) := by decide +kernel
theorem d_La_law_296 : decode code 296 = .ok (.iconst 2, 1) := by decide +kernel
theorem d_La_law_297 : decode code 297 = .ok (.iadd, 1) := by decide +kernel
theorem d_La_law_298 : decode code 298 = .ok (.iaload, 1) := by decide +kernel
theorem d_La_law_299 : decode code 299 = .ok (.invokevirtual 81, 3) := by decide +kernel
theorem d_La_law_302 : decode code 302 = .ok (.istore 6, 2) := by decide +kernel
theorem d_La_law_304 : decode code 304 = .ok (.aload_n 2, 1) := by decide +kernel
theorem d_La_law_305 : decode code 305 = .ok (.invokevirtual 71, 3) := by decide +kernel
theorem d_La_law_308 : decode code 308 = .ok (.iload 5, 2) := by decide +kernel
theorem d_La_law_310 : decode code 310 = .ok (.if_icmp .eq 5, 3) := by decide +kernel
theorem d_La_law_313 : decode code 313 = .ok (.iconst 0, 1) := by decide +kernel
theorem d_La_law_314 : decode code 314 = .ok (.ireturn, 1) := by decide +kernel
theorem d_La_law_315 : decode code 315 = .ok (.iload 5, 2) := by decide +kernel
theorem d_La_law_317 : decode code 317 = .ok (.ifCond .ne 15, 3) := by decide +kernel
theorem d_La_law_320 : decode code 320 = .ok (.aload_n 3, 1) := by decide +kernel
theorem d_La_law_321 : decode code 321 = .ok (.iconst 0, 1) := by decide +kernel
theorem d_La_law_322 : decode code 322 = .ok (.laload, 1) := by decide +kernel
theorem d_La_law_323 : decode code 323 = .ok (.iload 6, 2) := by decide +kernel
theorem d_La_law_325 : decode code 325 = .ok (.i2l, 1) := by decide +kernel
theorem d_La_law_326 : decode code 326 = .ok (.lcmp, 1) := by decide +kernel
theorem d_La_law_327 : decode code 327 = .ok (.ifCond .eq 5, 3) := by decide +kernel
theorem d_La_law_330 : decode code 330 = .ok (.iconst 0, 1) := by decide +kernel
theorem d_La_law_331 : decode code 331 = .ok (.ireturn, 1) := by decide +kernel
theorem d_La_law_332 : decode code 332 = .ok (.goto 885, 3) := by decide +kernel
theorem d_La_law_335 : decode code 335 = .ok (.aload_n 1, 1) := by decide +kernel
theorem d_La_law_336 : decode code 336 = .ok (.aload_n 0, 1) := by decide +kernel
theorem d_La_law_337 : decode code 337 = .ok (.iload 4, 2) := by decide +kernel
theorem d_La_law_339 : decode code 339 = .ok (.iconst 1, 1) := by decide +kernel
theorem d_La_law_340 : decode code 340 = .ok (.iadd, 1) := by decide +kernel
theorem d_La_law_341 : decode code 341 = .ok (.iaload, 1) := by decide +kernel
theorem d_La_law_342 : decode code 342 = .ok (.aload_n 0, 1) := by decide +kernel
theorem d_La_law_343 : decode code 343 = .ok (.iload 4, 2) := by decide +kernel
theorem d_La_law_345 : decode code 345 = .ok (.iconst 2, 1) := by decide +kernel
theorem d_La_law_346 : decode code 346 = .ok (.iadd, 1) := by decide +kernel
theorem d_La_law_347 : decode code 347 = .ok (.iaload, 1) := by decide +kernel
theorem d_La_law_348 : decode code 348 = .ok (.aload_n 0, 1) := by decide +kernel
theorem d_La_law_349 : decode code 349 = .ok (.iload 4, 2) := by decide +kernel
theorem d_La_law_351 : decode code 351 = .ok (.iconst 3, 1) := by decide +kernel
theorem d_La_law_352 : decode code 352 = .ok (.iadd, 1) := by decide +kernel
theorem d_La_law_353 : decode code 353 = .ok (.iaload, 1) := by decide +kernel
theorem d_La_law_354 : decode code 354 = .ok (.aload_n 3, 1) := by decide +kernel
theorem d_La_law_355 : decode code 355 = .ok (.invokestatic 82, 3) := by decide +kernel
theorem d_La_law_358 : decode code 358 = .ok (.istore 5, 2) := by decide +kernel
theorem d_La_law_360 : decode code 360 = .ok (.aload_n 2, 1) := by decide +kernel
theorem d_La_law_361 : decode code 361 = .ok (.aload_n 0, 1) := by decide +kernel
theorem d_La_law_362 : decode code 362 = .ok (.iload 4, 2) := by decide +kernel
theorem d_La_law_364 : decode code 364 = .ok (.iconst 1, 1) := by decide +kernel
theorem d_La_law_365 : decode code 365 = .ok (.iadd, 1) := by decide +kernel
theorem d_La_law_366 : decode code 366 = .ok (.iaload, 1) := by decide +kernel
theorem d_La_law_367 : decode code 367 = .ok (.aload_n 0, 1) := by decide +kernel
theorem d_La_law_368 : decode code 368 = .ok (.iload 4, 2) := by decide +kernel
theorem d_La_law_370 : decode code 370 = .ok (.iconst 2, 1) := by decide +kernel
theorem d_La_law_371 : decode code 371 = .ok (.iadd, 1) := by decide +kernel
theorem d_La_law_372 : decode code 372 = .ok (.iaload, 1) := by decide +kernel
theorem d_La_law_373 : decode code 373 = .ok (.aload_n 0, 1) := by decide +kernel
theorem d_La_law_374 : decode code 374 = .ok (.iload 4, 2) := by decide +kernel
theorem d_La_law_376 : decode code 376 = .ok (.iconst 3, 1) := by decide +kernel
theorem d_La_law_377 : decode code 377 = .ok (.iadd, 1) := by decide +kernel
theorem d_La_law_378 : decode code 378 = .ok (.iaload, 1) := by decide +kernel
theorem d_La_law_379 : decode code 379 = .ok (.invokevirtual 84, 3) := by decide +kernel
theorem d_La_law_382 : decode code 382 = .ok (.istore 6, 2) := by decide +kernel
theorem d_La_law_384 : decode code 384 = .ok (.aload_n 2, 1) := by decide +kernel
theorem d_La_law_385 : decode code 385 = .ok (.invokevirtual 71, 3) := by decide +kernel
theorem d_La_law_388 : decode code 388 = .ok (.iload 5, 2) := by decide +kernel
theorem d_La_law_390 : decode code 390 = .ok (.if_icmp .eq 5, 3) := by decide +kernel
theorem d_La_law_393 : decode code 393 = .ok (.iconst 0, 1) := by decide +kernel
theorem d_La_law_394 : decode code 394 = .ok (.ireturn, 1) := by decide +kernel
theorem d_La_law_395 : decode code 395 = .ok (.iload 5, 2) := by decide +kernel
theorem d_La_law_397 : decode code 397 = .ok (.ifCond .ne 15, 3) := by decide +kernel
theorem d_La_law_400 : decode code 400 = .ok (.aload_n 3, 1) := by decide +kernel
theorem d_La_law_401 : decode code 401 = .ok (.iconst 0, 1) := by decide +kernel
theorem d_La_law_402 : decode code 402 = .ok (.laload, 1) := by decide +kernel
theorem d_La_law_403 : decode code 403 = .ok (.iload 6, 2) := by decide +kernel
theorem d_La_law_405 : decode code 405 = .ok (.i2l, 1) := by decide +kernel
theorem d_La_law_406 : decode code 406 = .ok (.lcmp, 1) := by decide +kernel
theorem d_La_law_407 : decode code 407 = .ok (.ifCond .eq 5, 3) := by decide +kernel
theorem d_La_law_410 : decode code 410 = .ok (.iconst 0, 1) := by decide +kernel
theorem d_La_law_411 : decode code 411 = .ok (.ireturn, 1) := by decide +kernel
theorem d_La_law_412 : decode code 412 = .ok (.goto 805, 3) := by decide +kernel
theorem d_La_law_415 : decode code 415 = .ok (.aload_n 1, 1) := by decide +kernel
theorem d_La_law_416 : decode code 416 = .ok (.aload_n 0, 1) := by decide +kernel
theorem d_La_law_417 : decode code 417 = .ok (.iload 4, 2) := by decide +kernel
theorem d_La_law_419 : decode code 419 = .ok (.iconst 1, 1) := by decide +kernel
theorem d_La_law_420 : decode code 420 = .ok (.iadd, 1) := by decide +kernel
theorem d_La_law_421 : decode code 421 = .ok (.iaload, 1) := by decide +kernel
theorem d_La_law_422 : decode code 422 = .ok (.aload_n 0, 1) := by decide +kernel
theorem d_La_law_423 : decode code 423 = .ok (.iload 4, 2) := by decide +kernel
theorem d_La_law_425 : decode code 425 = .ok (.iconst 2, 1) := by decide +kernel
theorem d_La_law_426 : decode code 426 = .ok (.iadd, 1) := by decide +kernel
theorem d_La_law_427 : decode code 427 = .ok (.iaload, 1) := by decide +kernel
theorem d_La_law_428 : decode code 428 = .ok (.aload_n 3, 1) := by decide +kernel
theorem d_La_law_429 : decode code 429 = .ok (.invokestatic 85, 3) := by decide +kernel
theorem d_La_law_432 : decode code 432 = .ok (.istore 5, 2) := by decide +kernel
theorem d_La_law_434 : decode code 434 = .ok (.aload_n 2, 1) := by decide +kernel
theorem d_La_law_435 : decode code 435 = .ok (.aload_n 0, 1) := by decide +kernel
theorem d_La_law_436 : decode code 436 = .ok (.iload 4, 2) := by decide +kernel
theorem d_La_law_438 : decode code 438 = .ok (.iconst 1, 1) := by decide +kernel
theorem d_La_law_439 : decode code 439 = .ok (.iadd, 1) := by decide +kernel
theorem d_La_law_440 : decode code 440 = .ok (.iaload, 1) := by decide +kernel
theorem d_La_law_441 : decode code 441 = .ok (.aload_n 0, 1) := by decide +kernel
theorem d_La_law_442 : decode code 442 = .ok (.iload 4, 2) := by decide +kernel
theorem d_La_law_444 : decode code 444 = .ok (.iconst 2, 1) := by decide +kernel
theorem d_La_law_445 : decode code 445 = .ok (.iadd, 1) := by decide +kernel
theorem d_La_law_446 : decode code 446 = .ok (.iaload, 1) := by decide +kernel
theorem d_La_law_447 : decode code 447 = .ok (.invokevirtual 87, 3) := by decide +kernel
theorem d_La_law_450 : decode code 450 = .ok (.istore 6, 2) := by decide +kernel
theorem d_La_law_452 : decode code 452 = .ok (.aload_n 2, 1) := by decide +kernel
theorem d_La_law_453 : decode code 453 = .ok (.invokevirtual 71, 3) := by decide +kernel
theorem d_La_law_456 : decode code 456 = .ok (.iload 5, 2) := by decide +kernel
theorem d_La_law_458 : decode code 458 = .ok (.if_icmp .eq 5, 3) := by decide +kernel
theorem d_La_law_461 : decode code 461 = .ok (.iconst 0, 1) := by decide +kernel
theorem d_La_law_462 : decode code 462 = .ok (.ireturn, 1) := by decide +kernel
theorem d_La_law_463 : decode code 463 = .ok (.iload 5, 2) := by decide +kernel
theorem d_La_law_465 : decode code 465 = .ok (.ifCond .ne 22, 3) := by decide +kernel
theorem d_La_law_468 : decode code 468 = .ok (.aload_n 3, 1) := by decide +kernel
theorem d_La_law_469 : decode code 469 = .ok (.iconst 0, 1) := by decide +kernel
theorem d_La_law_470 : decode code 470 = .ok (.laload, 1) := by decide +kernel
theorem d_La_law_471 : decode code 471 = .ok (.iload 6, 2) := by decide +kernel
theorem d_La_law_473 : decode code 473 = .ok (.ifCond .eq 7, 3) := by decide +kernel
theorem d_La_law_476 : decode code 476 = .ok (.lconst 1, 1) := by decide +kernel
theorem d_La_law_477 : decode code 477 = .ok (.goto 4, 3) := by decide +kernel
theorem d_La_law_480 : decode code 480 = .ok (.lconst 0, 1) := by decide +kernel
theorem d_La_law_481 : decode code 481 = .ok (.lcmp, 1) := by decide +kernel
theorem d_La_law_482 : decode code 482 = .ok (.ifCond .eq 5, 3) := by decide +kernel
theorem d_La_law_485 : decode code 485 = .ok (.iconst 0, 1) := by decide +kernel
theorem d_La_law_486 : decode code 486 = .ok (.ireturn, 1) := by decide +kernel
theorem d_La_law_487 : decode code 487 = .ok (.goto 730, 3) := by decide +kernel
theorem d_La_law_490 : decode code 490 = .ok (.aload_n 1, 1) := by decide +kernel
theorem d_La_law_491 : decode code 491 = .ok (.aload_n 0, 1) := by decide +kernel
theorem d_La_law_492 : decode code 492 = .ok (.iload 4, 2) := by decide +kernel
theorem d_La_law_494 : decode code 494 = .ok (.iconst 1, 1) := by decide +kernel
theorem d_La_law_495 : decode code 495 = .ok (.iadd, 1) := by decide +kernel
theorem d_La_law_496 : decode code 496 = .ok (.iaload, 1) := by decide +kernel
theorem d_La_law_497 : decode code 497 = .ok (.aload_n 0, 1) := by decide +kernel
theorem d_La_law_498 : decode code 498 = .ok (.iload 4, 2) := by decide +kernel
theorem d_La_law_500 : decode code 500 = .ok (.iconst 2, 1) := by decide +kernel
theorem d_La_law_501 : decode code 501 = .ok (.iadd, 1) := by decide +kernel
theorem d_La_law_502 : decode code 502 = .ok (.iaload, 1) := by decide +kernel
theorem d_La_law_503 : decode code 503 = .ok (.aload_n 0, 1) := by decide +kernel
theorem d_La_law_504 : decode code 504 = .ok (.iload 4, 2) := by decide +kernel
theorem d_La_law_506 : decode code 506 = .ok (.iconst 3, 1) := by decide +kernel
theorem d_La_law_507 : decode code 507 = .ok (.iadd, 1) := by decide +kernel
theorem d_La_law_508 : decode code 508 = .ok (.iaload, 1) := by decide +kernel
theorem d_La_law_509 : decode code 509 = .ok (.i2l, 1) := by decide +kernel
theorem d_La_law_510 : decode code 510 = .ok (.bipush 32, 2) := by decide +kernel
theorem d_La_law_512 : decode code 512 = .ok (.lshl, 1) := by decide +kernel
theorem d_La_law_513 : decode code 513 = .ok (.aload_n 0, 1) := by decide +kernel
theorem d_La_law_514 : decode code 514 = .ok (.iload 4, 2) := by decide +kernel
theorem d_La_law_516 : decode code 516 = .ok (.iconst 4, 1) := by decide +kernel
theorem d_La_law_517 : decode code 517 = .ok (.iadd, 1) := by decide +kernel
theorem d_La_law_518 : decode code 518 = .ok (.iaload, 1) := by decide +kernel
theorem d_La_law_519 : decode code 519 = .ok (.i2l, 1) := by decide +kernel
theorem d_La_law_520 : decode code 520 = .ok (.ldc2_w 88, 3) := by decide +kernel
theorem d_La_law_523 : decode code 523 = .ok (.land, 1) := by decide +kernel
theorem d_La_law_524 : decode code 524 = .ok (.lor, 1) := by decide +kernel
theorem d_La_law_525 : decode code 525 = .ok (.aload_n 3, 1) := by decide +kernel
theorem d_La_law_526 : decode code 526 = .ok (.invokestatic 90, 3) := by decide +kernel
theorem d_La_law_529 : decode code 529 = .ok (.istore 5, 2) := by decide +kernel
theorem d_La_law_531 : decode code 531 = .ok (.aload_n 2, 1) := by decide +kernel
theorem d_La_law_532 : decode code 532 = .ok (.aload_n 0, 1) := by decide +kernel
theorem d_La_law_533 : decode code 533 = .ok (.iload 4, 2) := by decide +kernel
theorem d_La_law_535 : decode code 535 = .ok (.iconst 1, 1) := by decide +kernel
theorem d_La_law_536 : decode code 536 = .ok (.iadd, 1) := by decide +kernel
theorem d_La_law_537 : decode code 537 = .ok (.iaload, 1) := by decide +kernel
theorem d_La_law_538 : decode code 538 = .ok (.aload_n 0, 1) := by decide +kernel
theorem d_La_law_539 : decode code 539 = .ok (.iload 4, 2) := by decide +kernel
theorem d_La_law_541 : decode code 541 = .ok (.iconst 2, 1) := by decide +kernel
theorem d_La_law_542 : decode code 542 = .ok (.iadd, 1) := by decide +kernel
theorem d_La_law_543 : decode code 543 = .ok (.iaload, 1) := by decide +kernel
theorem d_La_law_544 : decode code 544 = .ok (.aload_n 0, 1) := by decide +kernel
theorem d_La_law_545 : decode code 545 = .ok (.iload 4, 2) := by decide +kernel
theorem d_La_law_547 : decode code 547 = .ok (.iconst 3, 1) := by decide +kernel
theorem d_La_law_548 : decode code 548 = .ok (.iadd, 1) := by decide +kernel
theorem d_La_law_549 : decode code 549 = .ok (.iaload, 1) := by decide +kernel
theorem d_La_law_550 : decode code 550 = .ok (.i2l, 1) := by decide +kernel
theorem d_La_law_551 : decode code 551 = .ok (.bipush 32, 2) := by decide +kernel
theorem d_La_law_553 : decode code 553 = .ok (.lshl, 1) := by decide +kernel
theorem d_La_law_554 : decode code 554 = .ok (.aload_n 0, 1) := by decide +kernel
theorem d_La_law_555 : decode code 555 = .ok (.iload 4, 2) := by decide +kernel
theorem d_La_law_557 : decode code 557 = .ok (.iconst 4, 1) := by decide +kernel
theorem d_La_law_558 : decode code 558 = .ok (.iadd, 1) := by decide +kernel
theorem d_La_law_559 : decode code 559 = .ok (.iaload, 1) := by decide +kernel
theorem d_La_law_560 : decode code 560 = .ok (.i2l, 1) := by decide +kernel
theorem d_La_law_561 : decode code 561 = .ok (.ldc2_w 88, 3) := by decide +kernel
theorem d_La_law_564 : decode code 564 = .ok (.land, 1) := by decide +kernel
theorem d_La_law_565 : decode code 565 = .ok (.lor, 1) := by decide +kernel
theorem d_La_law_566 : decode code 566 = .ok (.invokevirtual 93, 3) := by decide +kernel
theorem d_La_law_569 : decode code 569 = .ok (.istore 6, 2) := by decide +kernel
theorem d_La_law_571 : decode code 571 = .ok (.aload_n 2, 1) := by decide +kernel
theorem d_La_law_572 : decode code 572 = .ok (.invokevirtual 71, 3) := by decide +kernel
theorem d_La_law_575 : decode code 575 = .ok (.iload 5, 2) := by decide +kernel
theorem d_La_law_577 : decode code 577 = .ok (.if_icmp .eq 5, 3) := by decide +kernel
theorem d_La_law_580 : decode code 580 = .ok (.iconst 0, 1) := by decide +kernel
theorem d_La_law_581 : decode code 581 = .ok (.ireturn, 1) := by decide +kernel
theorem d_La_law_582 : decode code 582 = .ok (.iload 5, 2) := by decide +kernel
theorem d_La_law_584 : decode code 584 = .ok (.ifCond .ne 22, 3) := by decide +kernel
theorem d_La_law_587 : decode code 587 = .ok (.aload_n 3, 1) := by decide +kernel
theorem d_La_law_588 : decode code 588 = .ok (.iconst 0, 1) := by decide +kernel
theorem d_La_law_589 : decode code 589 = .ok (.laload, 1) := by decide +kernel
theorem d_La_law_590 : decode code 590 = .ok (.iload 6, 2) := by decide +kernel
theorem d_La_law_592 : decode code 592 = .ok (.ifCond .eq 7, 3) := by decide +kernel
theorem d_La_law_595 : decode code 595 = .ok (.lconst 1, 1) := by decide +kernel
theorem d_La_law_596 : decode code 596 = .ok (.goto 4, 3) := by decide +kernel
theorem d_La_law_599 : decode code 599 = .ok (.lconst 0, 1) := by decide +kernel
theorem d_La_law_600 : decode code 600 = .ok (.lcmp, 1) := by decide +kernel
theorem d_La_law_601 : decode code 601 = .ok (.ifCond .eq 5, 3) := by decide +kernel
theorem d_La_law_604 : decode code 604 = .ok (.iconst 0, 1) := by decide +kernel
theorem d_La_law_605 : decode code 605 = .ok (.ireturn, 1) := by decide +kernel
theorem d_La_law_606 : decode code 606 = .ok (.goto 611, 3) := by decide +kernel
theorem d_La_law_609 : decode code 609 = .ok (.aload_n 1, 1) := by decide +kernel
theorem d_La_law_610 : decode code 610 = .ok (.aload_n 0, 1) := by decide +kernel
theorem d_La_law_611 : decode code 611 = .ok (.iload 4, 2) := by decide +kernel
theorem d_La_law_613 : decode code 613 = .ok (.iconst 1, 1) := by decide +kernel
theorem d_La_law_614 : decode code 614 = .ok (.iadd, 1) := by decide +kernel
theorem d_La_law_615 : decode code 615 = .ok (.iaload, 1) := by decide +kernel
theorem d_La_law_616 : decode code 616 = .ok (.aload_n 0, 1) := by decide +kernel
theorem d_La_law_617 : decode code 617 = .ok (.iload 4, 2) := by decide +kernel
theorem d_La_law_619 : decode code 619 = .ok (.iconst 2, 1) := by decide +kernel
theorem d_La_law_620 : decode code 620 = .ok (.iadd, 1) := by decide +kernel
theorem d_La_law_621 : decode code 621 = .ok (.iaload, 1) := by decide +kernel
theorem d_La_law_622 : decode code 622 = .ok (.i2l, 1) := by decide +kernel
theorem d_La_law_623 : decode code 623 = .ok (.bipush 32, 2) := by decide +kernel
theorem d_La_law_625 : decode code 625 = .ok (.lshl, 1) := by decide +kernel
theorem d_La_law_626 : decode code 626 = .ok (.aload_n 0, 1) := by decide +kernel
theorem d_La_law_627 : decode code 627 = .ok (.iload 4, 2) := by decide +kernel
theorem d_La_law_629 : decode code 629 = .ok (.iconst 3, 1) := by decide +kernel
theorem d_La_law_630 : decode code 630 = .ok (.iadd, 1) := by decide +kernel
theorem d_La_law_631 : decode code 631 = .ok (.iaload, 1) := by decide +kernel
theorem d_La_law_632 : decode code 632 = .ok (.i2l, 1) := by decide +kernel
theorem d_La_law_633 : decode code 633 = .ok (.ldc2_w 88, 3) := by decide +kernel
theorem d_La_law_636 : decode code 636 = .ok (.land, 1) := by decide +kernel
theorem d_La_law_637 : decode code 637 = .ok (.lor, 1) := by decide +kernel
theorem d_La_law_638 : decode code 638 = .ok (.aload_n 0, 1) := by decide +kernel
theorem d_La_law_639 : decode code 639 = .ok (.iload 4, 2) := by decide +kernel
theorem d_La_law_641 : decode code 641 = .ok (.iconst 4, 1) := by decide +kernel
theorem d_La_law_642 : decode code 642 = .ok (.iadd, 1) := by decide +kernel
theorem d_La_law_643 : decode code 643 = .ok (.iaload, 1) := by decide +kernel
theorem d_La_law_644 : decode code 644 = .ok (.i2l, 1) := by decide +kernel
theorem d_La_law_645 : decode code 645 = .ok (.bipush 32, 2) := by decide +kernel
theorem d_La_law_647 : decode code 647 = .ok (.lshl, 1) := by decide +kernel
theorem d_La_law_648 : decode code 648 = .ok (.aload_n 0, 1) := by decide +kernel
theorem d_La_law_649 : decode code 649 = .ok (.iload 4, 2) := by decide +kernel
theorem d_La_law_651 : decode code 651 = .ok (.iconst 5, 1) := by decide +kernel
theorem d_La_law_652 : decode code 652 = .ok (.iadd, 1) := by decide +kernel
theorem d_La_law_653 : decode code 653 = .ok (.iaload, 1) := by decide +kernel
theorem d_La_law_654 : decode code 654 = .ok (.i2l, 1) := by decide +kernel
theorem d_La_law_655 : decode code 655 = .ok (.ldc2_w 88, 3) := by decide +kernel
theorem d_La_law_658 : decode code 658 = .ok (.land, 1) := by decide +kernel
theorem d_La_law_659 : decode code 659 = .ok (.lor, 1) := by decide +kernel
theorem d_La_law_660 : decode code 660 = .ok (.aload_n 3, 1) := by decide +kernel
theorem d_La_law_661 : decode code 661 = .ok (.invokestatic 94, 3) := by decide +kernel
theorem d_La_law_664 : decode code 664 = .ok (.istore 5, 2) := by decide +kernel
theorem d_La_law_666 : decode code 666 = .ok (.aload_n 2, 1) := by decide +kernel
theorem d_La_law_667 : decode code 667 = .ok (.aload_n 0, 1) := by decide +kernel
theorem d_La_law_668 : decode code 668 = .ok (.iload 4, 2) := by decide +kernel
theorem d_La_law_670 : decode code 670 = .ok (.iconst 1, 1) := by decide +kernel
theorem d_La_law_671 : decode code 671 = .ok (.iadd, 1) := by decide +kernel
theorem d_La_law_672 : decode code 672 = .ok (.iaload, 1) := by decide +kernel
theorem d_La_law_673 : decode code 673 = .ok (.aload_n 0, 1) := by decide +kernel
theorem d_La_law_674 : decode code 674 = .ok (.iload 4, 2) := by decide +kernel
theorem d_La_law_676 : decode code 676 = .ok (.iconst 2, 1) := by decide +kernel
theorem d_La_law_677 : decode code 677 = .ok (.iadd, 1) := by decide +kernel
theorem d_La_law_678 : decode code 678 = .ok (.iaload, 1) := by decide +kernel
theorem d_La_law_679 : decode code 679 = .ok (.i2l, 1) := by decide +kernel
theorem d_La_law_680 : decode code 680 = .ok (.bipush 32, 2) := by decide +kernel
theorem d_La_law_682 : decode code 682 = .ok (.lshl, 1) := by decide +kernel
theorem d_La_law_683 : decode code 683 = .ok (.aload_n 0, 1) := by decide +kernel
theorem d_La_law_684 : decode code 684 = .ok (.iload 4, 2) := by decide +kernel
theorem d_La_law_686 : decode code 686 = .ok (.iconst 3, 1) := by decide +kernel
theorem d_La_law_687 : decode code 687 = .ok (.iadd, 1) := by decide +kernel
theorem d_La_law_688 : decode code 688 = .ok (.iaload, 1) := by decide +kernel
theorem d_La_law_689 : decode code 689 = .ok (.i2l, 1) := by decide +kernel
theorem d_La_law_690 : decode code 690 = .ok (.ldc2_w 88, 3) := by decide +kernel
theorem d_La_law_693 : decode code 693 = .ok (.land, 1) := by decide +kernel
theorem d_La_law_694 : decode code 694 = .ok (.lor, 1) := by decide +kernel
theorem d_La_law_695 : decode code 695 = .ok (.aload_n 0, 1) := by decide +kernel
theorem d_La_law_696 : decode code 696 = .ok (.iload 4, 2) := by decide +kernel
theorem d_La_law_698 : decode code 698 = .ok (.iconst 4, 1) := by decide +kernel
theorem d_La_law_699 : decode code 699 = .ok (.iadd, 1) := by decide +kernel
theorem d_La_law_700 : decode code 700 = .ok (.iaload, 1) := by decide +kernel
theorem d_La_law_701 : decode code 701 = .ok (.i2l, 1) := by decide +kernel
theorem d_La_law_702 : decode code 702 = .ok (.bipush 32, 2) := by decide +kernel
theorem d_La_law_704 : decode code 704 = .ok (.lshl, 1) := by decide +kernel
theorem d_La_law_705 : decode code 705 = .ok (.aload_n 0, 1) := by decide +kernel
theorem d_La_law_706 : decode code 706 = .ok (.iload 4, 2) := by decide +kernel
theorem d_La_law_708 : decode code 708 = .ok (.iconst 5, 1) := by decide +kernel
theorem d_La_law_709 : decode code 709 = .ok (.iadd, 1) := by decide +kernel
theorem d_La_law_710 : decode code 710 = .ok (.iaload, 1) := by decide +kernel
theorem d_La_law_711 : decode code 711 = .ok (.i2l, 1) := by decide +kernel
theorem d_La_law_712 : decode code 712 = .ok (.ldc2_w 88, 3) := by decide +kernel
theorem d_La_law_715 : decode code 715 = .ok (.land, 1) := by decide +kernel
theorem d_La_law_716 : decode code 716 = .ok (.lor, 1) := by decide +kernel
theorem d_La_law_717 : decode code 717 = .ok (.invokevirtual 97, 3) := by decide +kernel
theorem d_La_law_720 : decode code 720 = .ok (.istore 6, 2) := by decide +kernel
theorem d_La_law_722 : decode code 722 = .ok (.aload_n 2, 1) := by decide +kernel
theorem d_La_law_723 : decode code 723 = .ok (.invokevirtual 71, 3) := by decide +kernel
theorem d_La_law_726 : decode code 726 = .ok (.iload 5, 2) := by decide +kernel
theorem d_La_law_728 : decode code 728 = .ok (.if_icmp .eq 5, 3) := by decide +kernel
theorem d_La_law_731 : decode code 731 = .ok (.iconst 0, 1) := by decide +kernel
theorem d_La_law_732 : decode code 732 = .ok (.ireturn, 1) := by decide +kernel
theorem d_La_law_733 : decode code 733 = .ok (.iload 5, 2) := by decide +kernel
theorem d_La_law_735 : decode code 735 = .ok (.ifCond .ne 22, 3) := by decide +kernel
theorem d_La_law_738 : decode code 738 = .ok (.aload_n 3, 1) := by decide +kernel
theorem d_La_law_739 : decode code 739 = .ok (.iconst 0, 1) := by decide +kernel
theorem d_La_law_740 : decode code 740 = .ok (.laload, 1) := by decide +kernel
theorem d_La_law_741 : decode code 741 = .ok (.iload 6, 2) := by decide +kernel
theorem d_La_law_743 : decode code 743 = .ok (.ifCond .eq 7, 3) := by decide +kernel
theorem d_La_law_746 : decode code 746 = .ok (.lconst 1, 1) := by decide +kernel
theorem d_La_law_747 : decode code 747 = .ok (.goto 4, 3) := by decide +kernel
theorem d_La_law_750 : decode code 750 = .ok (.lconst 0, 1) := by decide +kernel
theorem d_La_law_751 : decode code 751 = .ok (.lcmp, 1) := by decide +kernel
theorem d_La_law_752 : decode code 752 = .ok (.ifCond .eq 5, 3) := by decide +kernel
theorem d_La_law_755 : decode code 755 = .ok (.iconst 0, 1) := by decide +kernel
theorem d_La_law_756 : decode code 756 = .ok (.ireturn, 1) := by decide +kernel
theorem d_La_law_757 : decode code 757 = .ok (.goto 460, 3) := by decide +kernel
theorem d_La_law_760 : decode code 760 = .ok (.aload_n 1, 1) := by decide +kernel
theorem d_La_law_761 : decode code 761 = .ok (.aload_n 0, 1) := by decide +kernel
theorem d_La_law_762 : decode code 762 = .ok (.iload 4, 2) := by decide +kernel
theorem d_La_law_764 : decode code 764 = .ok (.iconst 1, 1) := by decide +kernel
theorem d_La_law_765 : decode code 765 = .ok (.iadd, 1) := by decide +kernel
theorem d_La_law_766 : decode code 766 = .ok (.iaload, 1) := by decide +kernel
theorem d_La_law_767 : decode code 767 = .ok (.invokevirtual 98, 3) := by decide +kernel
theorem d_La_law_770 : decode code 770 = .ok (.aload_n 2, 1) := by decide +kernel
theorem d_La_law_771 : decode code 771 = .ok (.aload_n 0, 1) := by decide +kernel
theorem d_La_law_772 : decode code 772 = .ok (.iload 4, 2) := by decide +kernel
theorem d_La_law_774 : decode code 774 = .ok (.iconst 1, 1) := by decide +kernel
theorem d_La_law_775 : decode code 775 = .ok (.iadd, 1) := by decide +kernel
theorem d_La_law_776 : decode code 776 = .ok (.iaload, 1) := by decide +kernel
theorem d_La_law_777 : decode code 777 = .ok (.invokevirtual 102, 3) := by decide +kernel
theorem d_La_law_780 : decode code 780 = .ok (.if_icmp .eq 437, 3) := by decide +kernel
theorem d_La_law_783 : decode code 783 = .ok (.iconst 0, 1) := by decide +kernel
theorem d_La_law_784 : decode code 784 = .ok (.ireturn, 1) := by decide +kernel
theorem d_La_law_785 : decode code 785 = .ok (.aload_n 1, 1) := by decide +kernel
theorem d_La_law_786 : decode code 786 = .ok (.aload_n 3, 1) := by decide +kernel
theorem d_La_law_787 : decode code 787 = .ok (.invokestatic 103, 3) := by decide +kernel
theorem d_La_law_790 : decode code 790 = .ok (.istore 5, 2) := by decide +kernel
theorem d_La_law_792 : decode code 792 = .ok (.aload_n 2, 1) := by decide +kernel
theorem d_La_law_793 : decode code 793 = .ok (.invokevirtual 106, 3) := by decide +kernel
theorem d_La_law_796 : decode code 796 = .ok (.istore 6, 2) := by decide +kernel
theorem d_La_law_798 : decode code 798 = .ok (.aload_n 2, 1) := by decide +kernel
theorem d_La_law_799 : decode code 799 = .ok (.invokevirtual 71, 3) := by decide +kernel
theorem d_La_law_802 : decode code 802 = .ok (.iload 5, 2) := by decide +kernel
theorem d_La_law_804 : decode code 804 = .ok (.if_icmp .eq 5, 3) := by decide +kernel
theorem d_La_law_807 : decode code 807 = .ok (.iconst 0, 1) := by decide +kernel
theorem d_La_law_808 : decode code 808 = .ok (.ireturn, 1) := by decide +kernel
theorem d_La_law_809 : decode code 809 = .ok (.iload 5, 2) := by decide +kernel
theorem d_La_law_811 : decode code 811 = .ok (.ifCond .ne 15, 3) := by decide +kernel
theorem d_La_law_814 : decode code 814 = .ok (.aload_n 3, 1) := by decide +kernel
theorem d_La_law_815 : decode code 815 = .ok (.iconst 0, 1) := by decide +kernel
theorem d_La_law_816 : decode code 816 = .ok (.laload, 1) := by decide +kernel
theorem d_La_law_817 : decode code 817 = .ok (.iload 6, 2) := by decide +kernel
theorem d_La_law_819 : decode code 819 = .ok (.i2l, 1) := by decide +kernel
theorem d_La_law_820 : decode code 820 = .ok (.lcmp, 1) := by decide +kernel
theorem d_La_law_821 : decode code 821 = .ok (.ifCond .eq 5, 3) := by decide +kernel
theorem d_La_law_824 : decode code 824 = .ok (.iconst 0, 1) := by decide +kernel
theorem d_La_law_825 : decode code 825 = .ok (.ireturn, 1) := by decide +kernel
theorem d_La_law_826 : decode code 826 = .ok (.goto 391, 3) := by decide +kernel
theorem d_La_law_829 : decode code 829 = .ok (.aload_n 1, 1) := by decide +kernel
theorem d_La_law_830 : decode code 830 = .ok (.aload_n 0, 1) := by decide +kernel
theorem d_La_law_831 : decode code 831 = .ok (.iload 4, 2) := by decide +kernel
theorem d_La_law_833 : decode code 833 = .ok (.iconst 1, 1) := by decide +kernel
theorem d_La_law_834 : decode code 834 = .ok (.iadd, 1) := by decide +kernel
theorem d_La_law_835 : decode code 835 = .ok (.iaload, 1) := by decide +kernel
theorem d_La_law_836 : decode code 836 = .ok (.aload_n 0, 1) := by decide +kernel
theorem d_La_law_837 : decode code 837 = .ok (.iload 4, 2) := by decide +kernel
theorem d_La_law_839 : decode code 839 = .ok (.iconst 2, 1) := by decide +kernel
theorem d_La_law_840 : decode code 840 = .ok (.iadd, 1) := by decide +kernel
theorem d_La_law_841 : decode code 841 = .ok (.iaload, 1) := by decide +kernel
theorem d_La_law_842 : decode code 842 = .ok (.ifCond .eq 7, 3) := by decide +kernel
theorem d_La_law_845 : decode code 845 = .ok (.iconst 1, 1) := by decide +kernel
theorem d_La_law_846 : decode code 846 = .ok (.goto 4, 3) := by decide +kernel
theorem d_La_law_849 : decode code 849 = .ok (.iconst 0, 1) := by decide +kernel
theorem d_La_law_850 : decode code 850 = .ok (.aload_n 3, 1) := by decide +kernel
theorem d_La_law_851 : decode code 851 = .ok (.invokestatic 107, 3) := by decide +kernel
theorem d_La_law_854 : decode code 854 = .ok (.istore 5, 2) := by decide +kernel
theorem d_La_law_856 : decode code 856 = .ok (.aload_n 2, 1) := by decide +kernel
theorem d_La_law_857 : decode code 857 = .ok (.aload_n 0, 1) := by decide +kernel
theorem d_La_law_858 : decode code 858 = .ok (.iload 4, 2) := by decide +kernel
theorem d_La_law_860 : decode code 860 = .ok (.iconst 1, 1) := by decide +kernel
theorem d_La_law_861 : decode code 861 = .ok (.iadd, 1) := by decide +kernel
theorem d_La_law_862 : decode code 862 = .ok (.iaload, 1) := by decide +kernel
theorem d_La_law_863 : decode code 863 = .ok (.aload_n 0, 1) := by decide +kernel
theorem d_La_law_864 : decode code 864 = .ok (.iload 4, 2) := by decide +kernel
theorem d_La_law_866 : decode code 866 = .ok (.iconst 2, 1) := by decide +kernel
theorem d_La_law_867 : decode code 867 = .ok (.iadd, 1) := by decide +kernel
theorem d_La_law_868 : decode code 868 = .ok (.iaload, 1) := by decide +kernel
theorem d_La_law_869 : decode code 869 = .ok (.ifCond .eq 7, 3) := by decide +kernel
theorem d_La_law_872 : decode code 872 = .ok (.iconst 1, 1) := by decide +kernel
theorem d_La_law_873 : decode code 873 = .ok (.goto 4, 3) := by decide +kernel
theorem d_La_law_876 : decode code 876 = .ok (.iconst 0, 1) := by decide +kernel
theorem d_La_law_877 : decode code 877 = .ok (.invokevirtual 110, 3) := by decide +kernel
theorem d_La_law_880 : decode code 880 = .ok (.istore 6, 2) := by decide +kernel
theorem d_La_law_882 : decode code 882 = .ok (.aload_n 2, 1) := by decide +kernel
theorem d_La_law_883 : decode code 883 = .ok (.invokevirtual 71, 3) := by decide +kernel
theorem d_La_law_886 : decode code 886 = .ok (.iload 5, 2) := by decide +kernel
theorem d_La_law_888 : decode code 888 = .ok (.if_icmp .eq 5, 3) := by decide +kernel
theorem d_La_law_891 : decode code 891 = .ok (.iconst 0, 1) := by decide +kernel
theorem d_La_law_892 : decode code 892 = .ok (.ireturn, 1) := by decide +kernel
theorem d_La_law_893 : decode code 893 = .ok (.iload 5, 2) := by decide +kernel
theorem d_La_law_895 : decode code 895 = .ok (.ifCond .ne 22, 3) := by decide +kernel
theorem d_La_law_898 : decode code 898 = .ok (.aload_n 3, 1) := by decide +kernel
theorem d_La_law_899 : decode code 899 = .ok (.iconst 0, 1) := by decide +kernel
theorem d_La_law_900 : decode code 900 = .ok (.laload, 1) := by decide +kernel
theorem d_La_law_901 : decode code 901 = .ok (.iload 6, 2) := by decide +kernel
theorem d_La_law_903 : decode code 903 = .ok (.ifCond .eq 7, 3) := by decide +kernel
theorem d_La_law_906 : decode code 906 = .ok (.lconst 1, 1) := by decide +kernel
theorem d_La_law_907 : decode code 907 = .ok (.goto 4, 3) := by decide +kernel
theorem d_La_law_910 : decode code 910 = .ok (.lconst 0, 1) := by decide +kernel
theorem d_La_law_911 : decode code 911 = .ok (.lcmp, 1) := by decide +kernel
theorem d_La_law_912 : decode code 912 = .ok (.ifCond .eq 5, 3) := by decide +kernel
theorem d_La_law_915 : decode code 915 = .ok (.iconst 0, 1) := by decide +kernel
theorem d_La_law_916 : decode code 916 = .ok (.ireturn, 1) := by decide +kernel
theorem d_La_law_917 : decode code 917 = .ok (.goto 300, 3) := by decide +kernel
theorem d_La_law_920 : decode code 920 = .ok (.aload_n 1, 1) := by decide +kernel
theorem d_La_law_921 : decode code 921 = .ok (.invokevirtual 111, 3) := by decide +kernel
theorem d_La_law_924 : decode code 924 = .ok (.aload_n 2, 1) := by decide +kernel
theorem d_La_law_925 : decode code 925 = .ok (.invokevirtual 114, 3) := by decide +kernel
theorem d_La_law_928 : decode code 928 = .ok (.if_icmp .eq 289, 3) := by decide +kernel
theorem d_La_law_931 : decode code 931 = .ok (.iconst 0, 1) := by decide +kernel
theorem d_La_law_932 : decode code 932 = .ok (.ireturn, 1) := by decide +kernel
theorem d_La_law_933 : decode code 933 = .ok (.aload_n 1, 1) := by decide +kernel
theorem d_La_law_934 : decode code 934 = .ok (.aload_n 0, 1) := by decide +kernel
theorem d_La_law_935 : decode code 935 = .ok (.iload 4, 2) := by decide +kernel
theorem d_La_law_937 : decode code 937 = .ok (.iconst 1, 1) := by decide +kernel
theorem d_La_law_938 : decode code 938 = .ok (.iadd, 1) := by decide +kernel
theorem d_La_law_939 : decode code 939 = .ok (.iaload, 1) := by decide +kernel
theorem d_La_law_940 : decode code 940 = .ok (.aload_n 0, 1) := by decide +kernel
theorem d_La_law_941 : decode code 941 = .ok (.iload 4, 2) := by decide +kernel
theorem d_La_law_943 : decode code 943 = .ok (.iconst 2, 1) := by decide +kernel
theorem d_La_law_944 : decode code 944 = .ok (.iadd, 1) := by decide +kernel
theorem d_La_law_945 : decode code 945 = .ok (.iaload, 1) := by decide +kernel
theorem d_La_law_946 : decode code 946 = .ok (.aload_n 3, 1) := by decide +kernel
theorem d_La_law_947 : decode code 947 = .ok (.invokestatic 115, 3) := by decide +kernel
theorem d_La_law_950 : decode code 950 = .ok (.istore 5, 2) := by decide +kernel
theorem d_La_law_952 : decode code 952 = .ok (.aload_n 2, 1) := by decide +kernel
theorem d_La_law_953 : decode code 953 = .ok (.aload_n 0, 1) := by decide +kernel
theorem d_La_law_954 : decode code 954 = .ok (.iload 4, 2) := by decide +kernel
theorem d_La_law_956 : decode code 956 = .ok (.iconst 1, 1) := by decide +kernel
theorem d_La_law_957 : decode code 957 = .ok (.iadd, 1) := by decide +kernel
theorem d_La_law_958 : decode code 958 = .ok (.iaload, 1) := by decide +kernel
theorem d_La_law_959 : decode code 959 = .ok (.aload_n 0, 1) := by decide +kernel
theorem d_La_law_960 : decode code 960 = .ok (.iload 4, 2) := by decide +kernel
theorem d_La_law_962 : decode code 962 = .ok (.iconst 2, 1) := by decide +kernel
theorem d_La_law_963 : decode code 963 = .ok (.iadd, 1) := by decide +kernel
theorem d_La_law_964 : decode code 964 = .ok (.iaload, 1) := by decide +kernel
theorem d_La_law_965 : decode code 965 = .ok (.invokevirtual 117, 3) := by decide +kernel
theorem d_La_law_968 : decode code 968 = .ok (.istore 6, 2) := by decide +kernel
theorem d_La_law_970 : decode code 970 = .ok (.aload_n 2, 1) := by decide +kernel
theorem d_La_law_971 : decode code 971 = .ok (.invokevirtual 71, 3) := by decide +kernel
theorem d_La_law_974 : decode code 974 = .ok (.iload 5, 2) := by decide +kernel
theorem d_La_law_976 : decode code 976 = .ok (.if_icmp .eq 5, 3) := by decide +kernel
theorem d_La_law_979 : decode code 979 = .ok (.iconst 0, 1) := by decide +kernel
theorem d_La_law_980 : decode code 980 = .ok (.ireturn, 1) := by decide +kernel
theorem d_La_law_981 : decode code 981 = .ok (.iload 5, 2) := by decide +kernel
theorem d_La_law_983 : decode code 983 = .ok (.ifCond .ne 15, 3) := by decide +kernel
theorem d_La_law_986 : decode code 986 = .ok (.aload_n 3, 1) := by decide +kernel
theorem d_La_law_987 : decode code 987 = .ok (.iconst 0, 1) := by decide +kernel
theorem d_La_law_988 : decode code 988 = .ok (.laload, 1) := by decide +kernel
theorem d_La_law_989 : decode code 989 = .ok (.iload 6, 2) := by decide +kernel
theorem d_La_law_991 : decode code 991 = .ok (.i2l, 1) := by decide +kernel
theorem d_La_law_992 : decode code 992 = .ok (.lcmp, 1) := by decide +kernel
theorem d_La_law_993 : decode code 993 = .ok (.ifCond .eq 5, 3) := by decide +kernel
theorem d_La_law_996 : decode code 996 = .ok (.iconst 0, 1) := by decide +kernel
theorem d_La_law_997 : decode code 997 = .ok (.ireturn, 1) := by decide +kernel
theorem d_La_law_998 : decode code 998 = .ok (.goto 219, 3) := by decide +kernel
theorem d_La_law_1001 : decode code 1001 = .ok (.aload_n 1, 1) := by decide +kernel
theorem d_La_law_1002 : decode code 1002 = .ok (.aload_n 0, 1) := by decide +kernel
theorem d_La_law_1003 : decode code 1003 = .ok (.iload 4, 2) := by decide +kernel
theorem d_La_law_1005 : decode code 1005 = .ok (.iconst 1, 1) := by decide +kernel
theorem d_La_law_1006 : decode code 1006 = .ok (.iadd, 1) := by decide +kernel
theorem d_La_law_1007 : decode code 1007 = .ok (.iaload, 1) := by decide +kernel
theorem d_La_law_1008 : decode code 1008 = .ok (.aload_n 0, 1) := by decide +kernel
theorem d_La_law_1009 : decode code 1009 = .ok (.iload 4, 2) := by decide +kernel
theorem d_La_law_1011 : decode code 1011 = .ok (.iconst 2, 1) := by decide +kernel
theorem d_La_law_1012 : decode code 1012 = .ok (.iadd, 1) := by decide +kernel
theorem d_La_law_1013 : decode code 1013 = .ok (.iaload, 1) := by decide +kernel
theorem d_La_law_1014 : decode code 1014 = .ok (.aload_n 3, 1) := by decide +kernel
theorem d_La_law_1015 : decode code 1015 = .ok (.invokestatic 118, 3) := by decide +kernel
theorem d_La_law_1018 : decode code 1018 = .ok (.istore 5, 2) := by decide +kernel
theorem d_La_law_1020 : decode code 1020 = .ok (.aload_n 2, 1) := by decide +kernel
theorem d_La_law_1021 : decode code 1021 = .ok (.aload_n 0, 1) := by decide +kernel
theorem d_La_law_1022 : decode code 1022 = .ok (.iload 4, 2) := by decide +kernel
theorem d_La_law_1024 : decode code 1024 = .ok (.iconst 1, 1) := by decide +kernel
theorem d_La_law_1025 : decode code 1025 = .ok (.iadd, 1) := by decide +kernel
theorem d_La_law_1026 : decode code 1026 = .ok (.iaload, 1) := by decide +kernel
theorem d_La_law_1027 : decode code 1027 = .ok (.aload_n 0, 1) := by decide +kernel
theorem d_La_law_1028 : decode code 1028 = .ok (.iload 4, 2) := by decide +kernel
theorem d_La_law_1030 : decode code 1030 = .ok (.iconst 2, 1) := by decide +kernel
theorem d_La_law_1031 : decode code 1031 = .ok (.iadd, 1) := by decide +kernel
theorem d_La_law_1032 : decode code 1032 = .ok (.iaload, 1) := by decide +kernel
theorem d_La_law_1033 : decode code 1033 = .ok (.invokevirtual 120, 3) := by decide +kernel
theorem d_La_law_1036 : decode code 1036 = .ok (.istore 6, 2) := by decide +kernel
theorem d_La_law_1038 : decode code 1038 = .ok (.aload_n 2, 1) := by decide +kernel
theorem d_La_law_1039 : decode code 1039 = .ok (.invokevirtual 71, 3) := by decide +kernel
theorem d_La_law_1042 : decode code 1042 = .ok (.iload 5, 2) := by decide +kernel
theorem d_La_law_1044 : decode code 1044 = .ok (.if_icmp .eq 5, 3) := by decide +kernel
theorem d_La_law_1047 : decode code 1047 = .ok (.iconst 0, 1) := by decide +kernel
theorem d_La_law_1048 : decode code 1048 = .ok (.ireturn, 1) := by decide +kernel
theorem d_La_law_1049 : decode code 1049 = .ok (.iload 5, 2) := by decide +kernel
theorem d_La_law_1051 : decode code 1051 = .ok (.ifCond .ne 15, 3) := by decide +kernel
theorem d_La_law_1054 : decode code 1054 = .ok (.aload_n 3, 1) := by decide +kernel
theorem d_La_law_1055 : decode code 1055 = .ok (.iconst 0, 1) := by decide +kernel
theorem d_La_law_1056 : decode code 1056 = .ok (.laload, 1) := by decide +kernel
theorem d_La_law_1057 : decode code 1057 = .ok (.iload 6, 2) := by decide +kernel
theorem d_La_law_1059 : decode code 1059 = .ok (.i2l, 1) := by decide +kernel
theorem d_La_law_1060 : decode code 1060 = .ok (.lcmp, 1) := by decide +kernel
theorem d_La_law_1061 : decode code 1061 = .ok (.ifCond .eq 5, 3) := by decide +kernel
theorem d_La_law_1064 : decode code 1064 = .ok (.iconst 0, 1) := by decide +kernel
theorem d_La_law_1065 : decode code 1065 = .ok (.ireturn, 1) := by decide +kernel
theorem d_La_law_1066 : decode code 1066 = .ok (.goto 151, 3) := by decide +kernel
theorem d_La_law_1069 : decode code 1069 = .ok (.aload_n 1, 1) := by decide +kernel
theorem d_La_law_1070 : decode code 1070 = .ok (.aload_n 0, 1) := by decide +kernel
theorem d_La_law_1071 : decode code 1071 = .ok (.iload 4, 2) := by decide +kernel
theorem d_La_law_1073 : decode code 1073 = .ok (.iconst 1, 1) := by decide +kernel
theorem d_La_law_1074 : decode code 1074 = .ok (.iadd, 1) := by decide +kernel
theorem d_La_law_1075 : decode code 1075 = .ok (.iaload, 1) := by decide +kernel
theorem d_La_law_1076 : decode code 1076 = .ok (.aload_n 0, 1) := by decide +kernel
theorem d_La_law_1077 : decode code 1077 = .ok (.iload 4, 2) := by decide +kernel
theorem d_La_law_1079 : decode code 1079 = .ok (.iconst 2, 1) := by decide +kernel
theorem d_La_law_1080 : decode code 1080 = .ok (.iadd, 1) := by decide +kernel
theorem d_La_law_1081 : decode code 1081 = .ok (.iaload, 1) := by decide +kernel
theorem d_La_law_1082 : decode code 1082 = .ok (.aload_n 0, 1) := by decide +kernel
theorem d_La_law_1083 : decode code 1083 = .ok (.iload 4, 2) := by decide +kernel
theorem d_La_law_1085 : decode code 1085 = .ok (.iconst 3, 1) := by decide +kernel
theorem d_La_law_1086 : decode code 1086 = .ok (.iadd, 1) := by decide +kernel
theorem d_La_law_1087 : decode code 1087 = .ok (.iaload, 1) := by decide +kernel
theorem d_La_law_1088 : decode code 1088 = .ok (.aload_n 0, 1) := by decide +kernel
theorem d_La_law_1089 : decode code 1089 = .ok (.iload 4, 2) := by decide +kernel
theorem d_La_law_1091 : decode code 1091 = .ok (.iconst 4, 1) := by decide +kernel
theorem d_La_law_1092 : decode code 1092 = .ok (.iadd, 1) := by decide +kernel
theorem d_La_law_1093 : decode code 1093 = .ok (.iaload, 1) := by decide +kernel
theorem d_La_law_1094 : decode code 1094 = .ok (.aload_n 3, 1) := by decide +kernel
theorem d_La_law_1095 : decode code 1095 = .ok (.invokestatic 121, 3) := by decide +kernel
theorem d_La_law_1098 : decode code 1098 = .ok (.istore 5, 2) := by decide +kernel
theorem d_La_law_1100 : decode code 1100 = .ok (.aload_n 2, 1) := by decide +kernel
theorem d_La_law_1101 : decode code 1101 = .ok (.aload_n 0, 1) := by decide +kernel
theorem d_La_law_1102 : decode code 1102 = .ok (.iload 4, 2) := by decide +kernel
theorem d_La_law_1104 : decode code 1104 = .ok (.iconst 1, 1) := by decide +kernel
theorem d_La_law_1105 : decode code 1105 = .ok (.iadd, 1) := by decide +kernel
theorem d_La_law_1106 : decode code 1106 = .ok (.iaload, 1) := by decide +kernel
theorem d_La_law_1107 : decode code 1107 = .ok (.aload_n 0, 1) := by decide +kernel
theorem d_La_law_1108 : decode code 1108 = .ok (.iload 4, 2) := by decide +kernel
theorem d_La_law_1110 : decode code 1110 = .ok (.iconst 2, 1) := by decide +kernel
theorem d_La_law_1111 : decode code 1111 = .ok (.iadd, 1) := by decide +kernel
theorem d_La_law_1112 : decode code 1112 = .ok (.iaload, 1) := by decide +kernel
theorem d_La_law_1113 : decode code 1113 = .ok (.aload_n 0, 1) := by decide +kernel
theorem d_La_law_1114 : decode code 1114 = .ok (.iload 4, 2) := by decide +kernel
theorem d_La_law_1116 : decode code 1116 = .ok (.iconst 3, 1) := by decide +kernel
theorem d_La_law_1117 : decode code 1117 = .ok (.iadd, 1) := by decide +kernel
theorem d_La_law_1118 : decode code 1118 = .ok (.iaload, 1) := by decide +kernel
theorem d_La_law_1119 : decode code 1119 = .ok (.aload_n 0, 1) := by decide +kernel
theorem d_La_law_1120 : decode code 1120 = .ok (.iload 4, 2) := by decide +kernel
theorem d_La_law_1122 : decode code 1122 = .ok (.iconst 4, 1) := by decide +kernel
theorem d_La_law_1123 : decode code 1123 = .ok (.iadd, 1) := by decide +kernel
theorem d_La_law_1124 : decode code 1124 = .ok (.iaload, 1) := by decide +kernel
theorem d_La_law_1125 : decode code 1125 = .ok (.invokevirtual 124, 3) := by decide +kernel
theorem d_La_law_1128 : decode code 1128 = .ok (.istore 6, 2) := by decide +kernel
theorem d_La_law_1130 : decode code 1130 = .ok (.aload_n 2, 1) := by decide +kernel
theorem d_La_law_1131 : decode code 1131 = .ok (.invokevirtual 71, 3) := by decide +kernel
theorem d_La_law_1134 : decode code 1134 = .ok (.iload 5, 2) := by decide +kernel
theorem d_La_law_1136 : decode code 1136 = .ok (.if_icmp .eq 5, 3) := by decide +kernel
