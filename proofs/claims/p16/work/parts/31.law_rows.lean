theorem rw_0_0 : mm_code 0 0 = some (.new 8, 3, 10, 13, [0]) := rfl
theorem rw_0_3 : mm_code 0 3 = some (.dup, 1, 0, 0, []) := rfl
theorem rw_0_4 : mm_code 0 4 = some (.invokespecial 17, 3, 109, 1, [1, 0]) := rfl
theorem rw_0_7 : mm_code 0 7 = some (.astore_n 1, 1, 0, 0, []) := rfl
theorem rw_0_8 : mm_code 0 8 = some (.new 18, 3, 11, 78, [2]) := rfl
theorem rw_0_11 : mm_code 0 11 = some (.dup, 1, 0, 0, []) := rfl
theorem rw_0_12 : mm_code 0 12 = some (.invokespecial 20, 3, 146, 1, [3, 0]) := rfl
theorem rw_0_15 : mm_code 0 15 = some (.astore_n 2, 1, 0, 0, []) := rfl
theorem rw_0_16 : mm_code 0 16 = some (.iconst 1, 1, 1, 0, []) := rfl
theorem rw_0_17 : mm_code 0 17 = some (.newarray .long, 2, 101, 0, []) := rfl
theorem rw_0_19 : mm_code 0 19 = some (.astore_n 3, 1, 0, 0, []) := rfl
theorem rw_0_20 : mm_code 0 20 = some (.iconst 0, 1, 0, 0, []) := rfl
theorem rw_0_21 : mm_code 0 21 = some (.istore 4, 2, 0, 0, []) := rfl
theorem rw_0_23 : mm_code 0 23 = some (.iload 4, 2, 0, 0, []) := rfl
theorem rw_0_25 : mm_code 0 25 = some (.aload_n 0, 1, 0, 0, []) := rfl
theorem rw_0_26 : mm_code 0 26 = some (.arraylength, 1, 0, 0, []) := rfl
theorem rw_0_27 : mm_code 0 27 = some (.bipush 6, 2, 6, 0, []) := rfl
theorem rw_0_29 : mm_code 0 29 = some (.isub, 1, 0, 0, []) := rfl
theorem rw_0_30 : mm_code 0 30 = some (.if_icmp .gt 1289, 3, 1319, 0, []) := rfl
theorem rw_0_33 : mm_code 0 33 = some (.aload_n 0, 1, 0, 0, []) := rfl
theorem rw_0_34 : mm_code 0 34 = some (.iload 4, 2, 0, 0, []) := rfl
theorem rw_0_36 : mm_code 0 36 = some (.iaload, 1, 0, 0, []) := rfl
theorem rw_0_37 : mm_code 0 37 = some (.bipush 31, 2, 31, 0, []) := rfl
theorem rw_0_39 : mm_code 0 39 = some (.iand, 1, 0, 0, []) := rfl
theorem rw_0_40 : mm_code 0 40 = some (.tableswitch 1273 0 29 #[136, 209, 234, 259, 284, 309, 346, 386, 423, 460, 473, 522, 559, 624, 661, 686, 723, 772, 797, 810, 847, 916, 929, 966, 1015, 1052, 1089, 1162, 1199, 1248], 136, 1313, 0, [176, 249, 274, 299, 324, 349, 386, 426, 463, 500, 513, 562, 599, 664, 701, 726, 763, 812, 837, 850, 887, 956, 969, 1006, 1055, 1092, 1129, 1202, 1239, 1288]) := rfl
theorem rw_0_176 : mm_code 0 176 = some (.aload_n 1, 1, 0, 0, []) := rfl
theorem rw_0_177 : mm_code 0 177 = some (.aload_n 0, 1, 0, 0, []) := rfl
theorem rw_0_178 : mm_code 0 178 = some (.iload 4, 2, 0, 0, []) := rfl
theorem rw_0_180 : mm_code 0 180 = some (.iconst 1, 1, 1, 0, []) := rfl
theorem rw_0_181 : mm_code 0 181 = some (.iadd, 1, 0, 0, []) := rfl
theorem rw_0_182 : mm_code 0 182 = some (.iaload, 1, 0, 0, []) := rfl
theorem rw_0_183 : mm_code 0 183 = some (.aload_n 0, 1, 0, 0, []) := rfl
theorem rw_0_184 : mm_code 0 184 = some (.iload 4, 2, 0, 0, []) := rfl
theorem rw_0_186 : mm_code 0 186 = some (.iconst 2, 1, 2, 0, []) := rfl
theorem rw_0_187 : mm_code 0 187 = some (.iadd, 1, 0, 0, []) := rfl
theorem rw_0_188 : mm_code 0 188 = some (.iaload, 1, 0, 0, []) := rfl
theorem rw_0_189 : mm_code 0 189 = some (.aload_n 0, 1, 0, 0, []) := rfl
theorem rw_0_190 : mm_code 0 190 = some (.iload 4, 2, 0, 0, []) := rfl
theorem rw_0_192 : mm_code 0 192 = some (.iconst 3, 1, 3, 0, []) := rfl
theorem rw_0_193 : mm_code 0 193 = some (.iadd, 1, 0, 0, []) := rfl
theorem rw_0_194 : mm_code 0 194 = some (.iaload, 1, 0, 0, []) := rfl
theorem rw_0_195 : mm_code 0 195 = some (.aload_n 0, 1, 0, 0, []) := rfl
theorem rw_0_196 : mm_code 0 196 = some (.iload 4, 2, 0, 0, []) := rfl
theorem rw_0_198 : mm_code 0 198 = some (.iconst 4, 1, 4, 0, []) := rfl
theorem rw_0_199 : mm_code 0 199 = some (.iadd, 1, 0, 0, []) := rfl
theorem rw_0_200 : mm_code 0 200 = some (.iaload, 1, 0, 0, []) := rfl
theorem rw_0_201 : mm_code 0 201 = some (.aload_n 0, 1, 0, 0, []) := rfl
theorem rw_0_202 : mm_code 0 202 = some (.iload 4, 2, 0, 0, []) := rfl
theorem rw_0_204 : mm_code 0 204 = some (.iconst 5, 1, 5, 0, []) := rfl
theorem rw_0_205 : mm_code 0 205 = some (.iadd, 1, 0, 0, []) := rfl
theorem rw_0_206 : mm_code 0 206 = some (.iaload, 1, 0, 0, []) := rfl
theorem rw_0_207 : mm_code 0 207 = some (.invokevirtual 21, 3, 110, 6, [4, 0]) := rfl
theorem rw_0_210 : mm_code 0 210 = some (.pop, 1, 0, 0, []) := rfl
theorem rw_0_211 : mm_code 0 211 = some (.aload_n 2, 1, 0, 0, []) := rfl
theorem rw_0_212 : mm_code 0 212 = some (.aload_n 0, 1, 0, 0, []) := rfl
theorem rw_0_213 : mm_code 0 213 = some (.iload 4, 2, 0, 0, []) := rfl
theorem rw_0_215 : mm_code 0 215 = some (.iconst 1, 1, 1, 0, []) := rfl
theorem rw_0_216 : mm_code 0 216 = some (.iadd, 1, 0, 0, []) := rfl
theorem rw_0_217 : mm_code 0 217 = some (.iaload, 1, 0, 0, []) := rfl
theorem rw_0_218 : mm_code 0 218 = some (.aload_n 0, 1, 0, 0, []) := rfl
theorem rw_0_219 : mm_code 0 219 = some (.iload 4, 2, 0, 0, []) := rfl
theorem rw_0_221 : mm_code 0 221 = some (.iconst 2, 1, 2, 0, []) := rfl
theorem rw_0_222 : mm_code 0 222 = some (.iadd, 1, 0, 0, []) := rfl
theorem rw_0_223 : mm_code 0 223 = some (.iaload, 1, 0, 0, []) := rfl
theorem rw_0_224 : mm_code 0 224 = some (.aload_n 0, 1, 0, 0, []) := rfl
theorem rw_0_225 : mm_code 0 225 = some (.iload 4, 2, 0, 0, []) := rfl
theorem rw_0_227 : mm_code 0 227 = some (.iconst 3, 1, 3, 0, []) := rfl
theorem rw_0_228 : mm_code 0 228 = some (.iadd, 1, 0, 0, []) := rfl
theorem rw_0_229 : mm_code 0 229 = some (.iaload, 1, 0, 0, []) := rfl
theorem rw_0_230 : mm_code 0 230 = some (.aload_n 0, 1, 0, 0, []) := rfl
theorem rw_0_231 : mm_code 0 231 = some (.iload 4, 2, 0, 0, []) := rfl
theorem rw_0_233 : mm_code 0 233 = some (.iconst 4, 1, 4, 0, []) := rfl
theorem rw_0_234 : mm_code 0 234 = some (.iadd, 1, 0, 0, []) := rfl
theorem rw_0_235 : mm_code 0 235 = some (.iaload, 1, 0, 0, []) := rfl
theorem rw_0_236 : mm_code 0 236 = some (.aload_n 0, 1, 0, 0, []) := rfl
theorem rw_0_237 : mm_code 0 237 = some (.iload 4, 2, 0, 0, []) := rfl
theorem rw_0_239 : mm_code 0 239 = some (.iconst 5, 1, 5, 0, []) := rfl
theorem rw_0_240 : mm_code 0 240 = some (.iadd, 1, 0, 0, []) := rfl
theorem rw_0_241 : mm_code 0 241 = some (.iaload, 1, 0, 0, []) := rfl
theorem rw_0_242 : mm_code 0 242 = some (.invokevirtual 25, 3, 147, 6, [5, 0]) := rfl
theorem rw_0_245 : mm_code 0 245 = some (.pop, 1, 0, 0, []) := rfl
theorem rw_0_246 : mm_code 0 246 = some (.goto 1067, 3, 1313, 0, []) := rfl
theorem rw_0_249 : mm_code 0 249 = some (.aload_n 1, 1, 0, 0, []) := rfl
theorem rw_0_250 : mm_code 0 250 = some (.aload_n 0, 1, 0, 0, []) := rfl
theorem rw_0_251 : mm_code 0 251 = some (.iload 4, 2, 0, 0, []) := rfl
theorem rw_0_253 : mm_code 0 253 = some (.iconst 1, 1, 1, 0, []) := rfl
theorem rw_0_254 : mm_code 0 254 = some (.iadd, 1, 0, 0, []) := rfl
theorem rw_0_255 : mm_code 0 255 = some (.iaload, 1, 0, 0, []) := rfl
theorem rw_0_256 : mm_code 0 256 = some (.invokevirtual 26, 3, 111, 2, [6, 0]) := rfl
theorem rw_0_259 : mm_code 0 259 = some (.pop, 1, 0, 0, []) := rfl
theorem rw_0_260 : mm_code 0 260 = some (.aload_n 2, 1, 0, 0, []) := rfl
theorem rw_0_261 : mm_code 0 261 = some (.aload_n 0, 1, 0, 0, []) := rfl
theorem rw_0_262 : mm_code 0 262 = some (.iload 4, 2, 0, 0, []) := rfl
theorem rw_0_264 : mm_code 0 264 = some (.iconst 1, 1, 1, 0, []) := rfl
theorem rw_0_265 : mm_code 0 265 = some (.iadd, 1, 0, 0, []) := rfl
theorem rw_0_266 : mm_code 0 266 = some (.iaload, 1, 0, 0, []) := rfl
theorem rw_0_267 : mm_code 0 267 = some (.invokevirtual 30, 3, 172, 2, [7, 0]) := rfl
theorem rw_0_270 : mm_code 0 270 = some (.pop, 1, 0, 0, []) := rfl
theorem rw_0_271 : mm_code 0 271 = some (.goto 1042, 3, 1313, 0, []) := rfl
theorem rw_0_274 : mm_code 0 274 = some (.aload_n 1, 1, 0, 0, []) := rfl
theorem rw_0_275 : mm_code 0 275 = some (.aload_n 0, 1, 0, 0, []) := rfl
theorem rw_0_276 : mm_code 0 276 = some (.iload 4, 2, 0, 0, []) := rfl
theorem rw_0_278 : mm_code 0 278 = some (.iconst 1, 1, 1, 0, []) := rfl
theorem rw_0_279 : mm_code 0 279 = some (.iadd, 1, 0, 0, []) := rfl
theorem rw_0_280 : mm_code 0 280 = some (.iaload, 1, 0, 0, []) := rfl
theorem rw_0_281 : mm_code 0 281 = some (.invokevirtual 31, 3, 112, 2, [8, 0]) := rfl
theorem rw_0_284 : mm_code 0 284 = some (.pop, 1, 0, 0, []) := rfl
theorem rw_0_285 : mm_code 0 285 = some (.aload_n 2, 1, 0, 0, []) := rfl
theorem rw_0_286 : mm_code 0 286 = some (.aload_n 0, 1, 0, 0, []) := rfl
theorem rw_0_287 : mm_code 0 287 = some (.iload 4, 2, 0, 0, []) := rfl
theorem rw_0_289 : mm_code 0 289 = some (.iconst 1, 1, 1, 0, []) := rfl
theorem rw_0_290 : mm_code 0 290 = some (.iadd, 1, 0, 0, []) := rfl
theorem rw_0_291 : mm_code 0 291 = some (.iaload, 1, 0, 0, []) := rfl
theorem rw_0_292 : mm_code 0 292 = some (.invokevirtual 34, 3, 218, 2, [9, 0]) := rfl
theorem rw_0_295 : mm_code 0 295 = some (.pop, 1, 0, 0, []) := rfl
theorem rw_0_296 : mm_code 0 296 = some (.goto 1017, 3, 1313, 0, []) := rfl
theorem rw_0_299 : mm_code 0 299 = some (.aload_n 1, 1, 0, 0, []) := rfl
theorem rw_0_300 : mm_code 0 300 = some (.aload_n 0, 1, 0, 0, []) := rfl
theorem rw_0_301 : mm_code 0 301 = some (.iload 4, 2, 0, 0, []) := rfl
theorem rw_0_303 : mm_code 0 303 = some (.iconst 1, 1, 1, 0, []) := rfl
theorem rw_0_304 : mm_code 0 304 = some (.iadd, 1, 0, 0, []) := rfl
theorem rw_0_305 : mm_code 0 305 = some (.iaload, 1, 0, 0, []) := rfl
theorem rw_0_306 : mm_code 0 306 = some (.invokevirtual 35, 3, 113, 2, [10, 0]) := rfl
theorem rw_0_309 : mm_code 0 309 = some (.pop, 1, 0, 0, []) := rfl
theorem rw_0_310 : mm_code 0 310 = some (.aload_n 2, 1, 0, 0, []) := rfl
theorem rw_0_311 : mm_code 0 311 = some (.aload_n 0, 1, 0, 0, []) := rfl
theorem rw_0_312 : mm_code 0 312 = some (.iload 4, 2, 0, 0, []) := rfl
theorem rw_0_314 : mm_code 0 314 = some (.iconst 1, 1, 1, 0, []) := rfl
theorem rw_0_315 : mm_code 0 315 = some (.iadd, 1, 0, 0, []) := rfl
theorem rw_0_316 : mm_code 0 316 = some (.iaload, 1, 0, 0, []) := rfl
theorem rw_0_317 : mm_code 0 317 = some (.invokevirtual 38, 3, 226, 2, [11, 0]) := rfl
theorem rw_0_320 : mm_code 0 320 = some (.pop, 1, 0, 0, []) := rfl
theorem rw_0_321 : mm_code 0 321 = some (.goto 992, 3, 1313, 0, []) := rfl
theorem rw_0_324 : mm_code 0 324 = some (.aload_n 1, 1, 0, 0, []) := rfl
theorem rw_0_325 : mm_code 0 325 = some (.aload_n 0, 1, 0, 0, []) := rfl
theorem rw_0_326 : mm_code 0 326 = some (.iload 4, 2, 0, 0, []) := rfl
theorem rw_0_328 : mm_code 0 328 = some (.iconst 1, 1, 1, 0, []) := rfl
theorem rw_0_329 : mm_code 0 329 = some (.iadd, 1, 0, 0, []) := rfl
theorem rw_0_330 : mm_code 0 330 = some (.iaload, 1, 0, 0, []) := rfl
theorem rw_0_331 : mm_code 0 331 = some (.invokevirtual 39, 3, 114, 2, [12, 0]) := rfl
theorem rw_0_334 : mm_code 0 334 = some (.pop, 1, 0, 0, []) := rfl
theorem rw_0_335 : mm_code 0 335 = some (.aload_n 2, 1, 0, 0, []) := rfl
theorem rw_0_336 : mm_code 0 336 = some (.aload_n 0, 1, 0, 0, []) := rfl
theorem rw_0_337 : mm_code 0 337 = some (.iload 4, 2, 0, 0, []) := rfl
theorem rw_0_339 : mm_code 0 339 = some (.iconst 1, 1, 1, 0, []) := rfl
theorem rw_0_340 : mm_code 0 340 = some (.iadd, 1, 0, 0, []) := rfl
theorem rw_0_341 : mm_code 0 341 = some (.iaload, 1, 0, 0, []) := rfl
theorem rw_0_342 : mm_code 0 342 = some (.invokevirtual 42, 3, 173, 2, [13, 0]) := rfl
theorem rw_0_345 : mm_code 0 345 = some (.pop, 1, 0, 0, []) := rfl
theorem rw_0_346 : mm_code 0 346 = some (.goto 967, 3, 1313, 0, []) := rfl
theorem rw_0_349 : mm_code 0 349 = some (.aload_n 1, 1, 0, 0, []) := rfl
theorem rw_0_350 : mm_code 0 350 = some (.aload_n 0, 1, 0, 0, []) := rfl
theorem rw_0_351 : mm_code 0 351 = some (.iload 4, 2, 0, 0, []) := rfl
theorem rw_0_353 : mm_code 0 353 = some (.iconst 1, 1, 1, 0, []) := rfl
theorem rw_0_354 : mm_code 0 354 = some (.iadd, 1, 0, 0, []) := rfl
theorem rw_0_355 : mm_code 0 355 = some (.iaload, 1, 0, 0, []) := rfl
theorem rw_0_356 : mm_code 0 356 = some (.aload_n 0, 1, 0, 0, []) := rfl
theorem rw_0_357 : mm_code 0 357 = some (.iload 4, 2, 0, 0, []) := rfl
theorem rw_0_359 : mm_code 0 359 = some (.iconst 2, 1, 2, 0, []) := rfl
theorem rw_0_360 : mm_code 0 360 = some (.iadd, 1, 0, 0, []) := rfl
theorem rw_0_361 : mm_code 0 361 = some (.iaload, 1, 0, 0, []) := rfl
theorem rw_0_362 : mm_code 0 362 = some (.invokevirtual 43, 3, 115, 3, [14, 0]) := rfl
theorem rw_0_365 : mm_code 0 365 = some (.pop, 1, 0, 0, []) := rfl
theorem rw_0_366 : mm_code 0 366 = some (.aload_n 2, 1, 0, 0, []) := rfl
theorem rw_0_367 : mm_code 0 367 = some (.aload_n 0, 1, 0, 0, []) := rfl
theorem rw_0_368 : mm_code 0 368 = some (.iload 4, 2, 0, 0, []) := rfl
theorem rw_0_370 : mm_code 0 370 = some (.iconst 1, 1, 1, 0, []) := rfl
theorem rw_0_371 : mm_code 0 371 = some (.iadd, 1, 0, 0, []) := rfl
theorem rw_0_372 : mm_code 0 372 = some (.iaload, 1, 0, 0, []) := rfl
theorem rw_0_373 : mm_code 0 373 = some (.aload_n 0, 1, 0, 0, []) := rfl
theorem rw_0_374 : mm_code 0 374 = some (.iload 4, 2, 0, 0, []) := rfl
theorem rw_0_376 : mm_code 0 376 = some (.iconst 2, 1, 2, 0, []) := rfl
theorem rw_0_377 : mm_code 0 377 = some (.iadd, 1, 0, 0, []) := rfl
theorem rw_0_378 : mm_code 0 378 = some (.iaload, 1, 0, 0, []) := rfl
theorem rw_0_379 : mm_code 0 379 = some (.invokevirtual 46, 3, 176, 3, [15, 0]) := rfl
theorem rw_0_382 : mm_code 0 382 = some (.pop, 1, 0, 0, []) := rfl
theorem rw_0_383 : mm_code 0 383 = some (.goto 930, 3, 1313, 0, []) := rfl
theorem rw_0_386 : mm_code 0 386 = some (.aload_n 1, 1, 0, 0, []) := rfl
theorem rw_0_387 : mm_code 0 387 = some (.aload_n 0, 1, 0, 0, []) := rfl
theorem rw_0_388 : mm_code 0 388 = some (.iload 4, 2, 0, 0, []) := rfl
theorem rw_0_390 : mm_code 0 390 = some (.iconst 1, 1, 1, 0, []) := rfl
theorem rw_0_391 : mm_code 0 391 = some (.iadd, 1, 0, 0, []) := rfl
theorem rw_0_392 : mm_code 0 392 = some (.iaload, 1, 0, 0, []) := rfl
theorem rw_0_393 : mm_code 0 393 = some (.aload_n 0, 1, 0, 0, []) := rfl
theorem rw_0_394 : mm_code 0 394 = some (.iload 4, 2, 0, 0, []) := rfl
theorem rw_0_396 : mm_code 0 396 = some (.iconst 2, 1, 2, 0, []) := rfl
theorem rw_0_397 : mm_code 0 397 = some (.iadd, 1, 0, 0, []) := rfl
theorem rw_0_398 : mm_code 0 398 = some (.iaload, 1, 0, 0, []) := rfl
theorem rw_0_399 : mm_code 0 399 = some (.aload_n 3, 1, 0, 0, []) := rfl
theorem rw_0_400 : mm_code 0 400 = some (.invokestatic 47, 3, 998, 4, [16, 0]) := rfl
theorem rw_0_403 : mm_code 0 403 = some (.istore 5, 2, 0, 0, []) := rfl
theorem rw_0_405 : mm_code 0 405 = some (.aload_n 2, 1, 0, 0, []) := rfl
theorem rw_0_406 : mm_code 0 406 = some (.aload_n 0, 1, 0, 0, []) := rfl
theorem rw_0_407 : mm_code 0 407 = some (.iload 4, 2, 0, 0, []) := rfl
theorem rw_0_409 : mm_code 0 409 = some (.iconst 1, 1, 1, 0, []) := rfl
theorem rw_0_410 : mm_code 0 410 = some (.iadd, 1, 0, 0, []) := rfl
theorem rw_0_411 : mm_code 0 411 = some (.iaload, 1, 0, 0, []) := rfl
theorem rw_0_412 : mm_code 0 412 = some (.aload_n 0, 1, 0, 0, []) := rfl
theorem rw_0_413 : mm_code 0 413 = some (.iload 4, 2, 0, 0, []) := rfl
theorem rw_0_415 : mm_code 0 415 = some (.iconst 2, 1, 2, 0, []) := rfl
theorem rw_0_416 : mm_code 0 416 = some (.iadd, 1, 0, 0, []) := rfl
theorem rw_0_417 : mm_code 0 417 = some (.iaload, 1, 0, 0, []) := rfl
theorem rw_0_418 : mm_code 0 418 = some (.invokevirtual 52, 3, 181, 3, [17, 0]) := rfl
theorem rw_0_421 : mm_code 0 421 = some (.istore 6, 2, 0, 0, []) := rfl
theorem rw_0_423 : mm_code 0 423 = some (.goto 890, 3, 1313, 0, []) := rfl
theorem rw_0_426 : mm_code 0 426 = some (.aload_n 1, 1, 0, 0, []) := rfl
theorem rw_0_427 : mm_code 0 427 = some (.aload_n 0, 1, 0, 0, []) := rfl
theorem rw_0_428 : mm_code 0 428 = some (.iload 4, 2, 0, 0, []) := rfl
theorem rw_0_430 : mm_code 0 430 = some (.iconst 1, 1, 1, 0, []) := rfl
theorem rw_0_431 : mm_code 0 431 = some (.iadd, 1, 0, 0, []) := rfl
theorem rw_0_432 : mm_code 0 432 = some (.iaload, 1, 0, 0, []) := rfl
theorem rw_0_433 : mm_code 0 433 = some (.aload_n 0, 1, 0, 0, []) := rfl
theorem rw_0_434 : mm_code 0 434 = some (.iload 4, 2, 0, 0, []) := rfl
theorem rw_0_436 : mm_code 0 436 = some (.iconst 2, 1, 2, 0, []) := rfl
theorem rw_0_437 : mm_code 0 437 = some (.iadd, 1, 0, 0, []) := rfl
theorem rw_0_438 : mm_code 0 438 = some (.iaload, 1, 0, 0, []) := rfl
theorem rw_0_439 : mm_code 0 439 = some (.invokevirtual 53, 3, 116, 3, [18, 0]) := rfl
theorem rw_0_442 : mm_code 0 442 = some (.pop2, 1, 0, 0, []) := rfl
theorem rw_0_443 : mm_code 0 443 = some (.aload_n 2, 1, 0, 0, []) := rfl
theorem rw_0_444 : mm_code 0 444 = some (.aload_n 0, 1, 0, 0, []) := rfl
theorem rw_0_445 : mm_code 0 445 = some (.iload 4, 2, 0, 0, []) := rfl
theorem rw_0_447 : mm_code 0 447 = some (.iconst 1, 1, 1, 0, []) := rfl
theorem rw_0_448 : mm_code 0 448 = some (.iadd, 1, 0, 0, []) := rfl
theorem rw_0_449 : mm_code 0 449 = some (.iaload, 1, 0, 0, []) := rfl
theorem rw_0_450 : mm_code 0 450 = some (.aload_n 0, 1, 0, 0, []) := rfl
theorem rw_0_451 : mm_code 0 451 = some (.iload 4, 2, 0, 0, []) := rfl
theorem rw_0_453 : mm_code 0 453 = some (.iconst 2, 1, 2, 0, []) := rfl
theorem rw_0_454 : mm_code 0 454 = some (.iadd, 1, 0, 0, []) := rfl
theorem rw_0_455 : mm_code 0 455 = some (.iaload, 1, 0, 0, []) := rfl
theorem rw_0_456 : mm_code 0 456 = some (.invokevirtual 57, 3, 184, 3, [19, 0]) := rfl
theorem rw_0_459 : mm_code 0 459 = some (.pop2, 1, 0, 0, []) := rfl
theorem rw_0_460 : mm_code 0 460 = some (.goto 853, 3, 1313, 0, []) := rfl
theorem rw_0_463 : mm_code 0 463 = some (.aload_n 1, 1, 0, 0, []) := rfl
theorem rw_0_464 : mm_code 0 464 = some (.aload_n 0, 1, 0, 0, []) := rfl
theorem rw_0_465 : mm_code 0 465 = some (.iload 4, 2, 0, 0, []) := rfl
theorem rw_0_467 : mm_code 0 467 = some (.iconst 1, 1, 1, 0, []) := rfl
theorem rw_0_468 : mm_code 0 468 = some (.iadd, 1, 0, 0, []) := rfl
theorem rw_0_469 : mm_code 0 469 = some (.iaload, 1, 0, 0, []) := rfl
theorem rw_0_470 : mm_code 0 470 = some (.aload_n 0, 1, 0, 0, []) := rfl
theorem rw_0_471 : mm_code 0 471 = some (.iload 4, 2, 0, 0, []) := rfl
theorem rw_0_473 : mm_code 0 473 = some (.iconst 2, 1, 2, 0, []) := rfl
theorem rw_0_474 : mm_code 0 474 = some (.iadd, 1, 0, 0, []) := rfl
theorem rw_0_475 : mm_code 0 475 = some (.iaload, 1, 0, 0, []) := rfl
theorem rw_0_476 : mm_code 0 476 = some (.invokevirtual 58, 3, 117, 3, [20, 0]) := rfl
theorem rw_0_479 : mm_code 0 479 = some (.pop2, 1, 0, 0, []) := rfl
theorem rw_0_480 : mm_code 0 480 = some (.aload_n 2, 1, 0, 0, []) := rfl
theorem rw_0_481 : mm_code 0 481 = some (.aload_n 0, 1, 0, 0, []) := rfl
theorem rw_0_482 : mm_code 0 482 = some (.iload 4, 2, 0, 0, []) := rfl
theorem rw_0_484 : mm_code 0 484 = some (.iconst 1, 1, 1, 0, []) := rfl
theorem rw_0_485 : mm_code 0 485 = some (.iadd, 1, 0, 0, []) := rfl
theorem rw_0_486 : mm_code 0 486 = some (.iaload, 1, 0, 0, []) := rfl
theorem rw_0_487 : mm_code 0 487 = some (.aload_n 0, 1, 0, 0, []) := rfl
theorem rw_0_488 : mm_code 0 488 = some (.iload 4, 2, 0, 0, []) := rfl
theorem rw_0_490 : mm_code 0 490 = some (.iconst 2, 1, 2, 0, []) := rfl
theorem rw_0_491 : mm_code 0 491 = some (.iadd, 1, 0, 0, []) := rfl
theorem rw_0_492 : mm_code 0 492 = some (.iaload, 1, 0, 0, []) := rfl
theorem rw_0_493 : mm_code 0 493 = some (.invokevirtual 61, 3, 191, 3, [21, 0]) := rfl
theorem rw_0_496 : mm_code 0 496 = some (.pop2, 1, 0, 0, []) := rfl
theorem rw_0_497 : mm_code 0 497 = some (.goto 816, 3, 1313, 0, []) := rfl
theorem rw_0_500 : mm_code 0 500 = some (.aload_n 1, 1, 0, 0, []) := rfl
theorem rw_0_501 : mm_code 0 501 = some (.invokevirtual 62, 3, 118, 1, [22, 0]) := rfl
theorem rw_0_504 : mm_code 0 504 = some (.pop, 1, 0, 0, []) := rfl
theorem rw_0_505 : mm_code 0 505 = some (.aload_n 2, 1, 0, 0, []) := rfl
theorem rw_0_506 : mm_code 0 506 = some (.invokevirtual 66, 3, 192, 1, [23, 0]) := rfl
theorem rw_0_509 : mm_code 0 509 = some (.pop, 1, 0, 0, []) := rfl
theorem rw_0_510 : mm_code 0 510 = some (.goto 803, 3, 1313, 0, []) := rfl
theorem rw_0_513 : mm_code 0 513 = some (.aload_n 1, 1, 0, 0, []) := rfl
theorem rw_0_514 : mm_code 0 514 = some (.aload_n 0, 1, 0, 0, []) := rfl
theorem rw_0_515 : mm_code 0 515 = some (.iload 4, 2, 0, 0, []) := rfl
theorem rw_0_517 : mm_code 0 517 = some (.iconst 1, 1, 1, 0, []) := rfl
theorem rw_0_518 : mm_code 0 518 = some (.iadd, 1, 0, 0, []) := rfl
theorem rw_0_519 : mm_code 0 519 = some (.iaload, 1, 0, 0, []) := rfl
theorem rw_0_520 : mm_code 0 520 = some (.aload_n 0, 1, 0, 0, []) := rfl
theorem rw_0_521 : mm_code 0 521 = some (.iload 4, 2, 0, 0, []) := rfl
theorem rw_0_523 : mm_code 0 523 = some (.iconst 2, 1, 2, 0, []) := rfl
theorem rw_0_524 : mm_code 0 524 = some (.iadd, 1, 0, 0, []) := rfl
theorem rw_0_525 : mm_code 0 525 = some (.iaload, 1, 0, 0, []) := rfl
theorem rw_0_526 : mm_code 0 526 = some (.aload_n 0, 1, 0, 0, []) := rfl
theorem rw_0_527 : mm_code 0 527 = some (.iload 4, 2, 0, 0, []) := rfl
theorem rw_0_529 : mm_code 0 529 = some (.iconst 3, 1, 3, 0, []) := rfl
theorem rw_0_530 : mm_code 0 530 = some (.iadd, 1, 0, 0, []) := rfl
theorem rw_0_531 : mm_code 0 531 = some (.iaload, 1, 0, 0, []) := rfl
theorem rw_0_532 : mm_code 0 532 = some (.invokevirtual 67, 3, 119, 4, [24, 0]) := rfl
theorem rw_0_535 : mm_code 0 535 = some (.pop, 1, 0, 0, []) := rfl
theorem rw_0_536 : mm_code 0 536 = some (.aload_n 2, 1, 0, 0, []) := rfl
theorem rw_0_537 : mm_code 0 537 = some (.aload_n 0, 1, 0, 0, []) := rfl
theorem rw_0_538 : mm_code 0 538 = some (.iload 4, 2, 0, 0, []) := rfl
theorem rw_0_540 : mm_code 0 540 = some (.iconst 1, 1, 1, 0, []) := rfl
theorem rw_0_541 : mm_code 0 541 = some (.iadd, 1, 0, 0, []) := rfl
theorem rw_0_542 : mm_code 0 542 = some (.iaload, 1, 0, 0, []) := rfl
theorem rw_0_543 : mm_code 0 543 = some (.aload_n 0, 1, 0, 0, []) := rfl
theorem rw_0_544 : mm_code 0 544 = some (.iload 4, 2, 0, 0, []) := rfl
theorem rw_0_546 : mm_code 0 546 = some (.iconst 2, 1, 2, 0, []) := rfl
theorem rw_0_547 : mm_code 0 547 = some (.iadd, 1, 0, 0, []) := rfl
theorem rw_0_548 : mm_code 0 548 = some (.iaload, 1, 0, 0, []) := rfl
theorem rw_0_549 : mm_code 0 549 = some (.aload_n 0, 1, 0, 0, []) := rfl
theorem rw_0_550 : mm_code 0 550 = some (.iload 4, 2, 0, 0, []) := rfl
theorem rw_0_552 : mm_code 0 552 = some (.iconst 3, 1, 3, 0, []) := rfl
theorem rw_0_553 : mm_code 0 553 = some (.iadd, 1, 0, 0, []) := rfl
theorem rw_0_554 : mm_code 0 554 = some (.iaload, 1, 0, 0, []) := rfl
theorem rw_0_555 : mm_code 0 555 = some (.invokevirtual 71, 3, 193, 4, [25, 0]) := rfl
theorem rw_0_558 : mm_code 0 558 = some (.pop, 1, 0, 0, []) := rfl
theorem rw_0_559 : mm_code 0 559 = some (.goto 754, 3, 1313, 0, []) := rfl
theorem rw_0_562 : mm_code 0 562 = some (.aload_n 1, 1, 0, 0, []) := rfl
theorem rw_0_563 : mm_code 0 563 = some (.aload_n 0, 1, 0, 0, []) := rfl
theorem rw_0_564 : mm_code 0 564 = some (.iload 4, 2, 0, 0, []) := rfl
theorem rw_0_566 : mm_code 0 566 = some (.iconst 1, 1, 1, 0, []) := rfl
theorem rw_0_567 : mm_code 0 567 = some (.iadd, 1, 0, 0, []) := rfl
theorem rw_0_568 : mm_code 0 568 = some (.iaload, 1, 0, 0, []) := rfl
theorem rw_0_569 : mm_code 0 569 = some (.aload_n 0, 1, 0, 0, []) := rfl
theorem rw_0_570 : mm_code 0 570 = some (.iload 4, 2, 0, 0, []) := rfl
theorem rw_0_572 : mm_code 0 572 = some (.iconst 2, 1, 2, 0, []) := rfl
theorem rw_0_573 : mm_code 0 573 = some (.iadd, 1, 0, 0, []) := rfl
theorem rw_0_574 : mm_code 0 574 = some (.iaload, 1, 0, 0, []) := rfl
theorem rw_0_575 : mm_code 0 575 = some (.invokevirtual 72, 3, 120, 3, [26, 0]) := rfl
theorem rw_0_578 : mm_code 0 578 = some (.pop, 1, 0, 0, []) := rfl
theorem rw_0_579 : mm_code 0 579 = some (.aload_n 2, 1, 0, 0, []) := rfl
theorem rw_0_580 : mm_code 0 580 = some (.aload_n 0, 1, 0, 0, []) := rfl
theorem rw_0_581 : mm_code 0 581 = some (.iload 4, 2, 0, 0, []) := rfl
theorem rw_0_583 : mm_code 0 583 = some (.iconst 1, 1, 1, 0, []) := rfl
theorem rw_0_584 : mm_code 0 584 = some (.iadd, 1, 0, 0, []) := rfl
theorem rw_0_585 : mm_code 0 585 = some (.iaload, 1, 0, 0, []) := rfl
theorem rw_0_586 : mm_code 0 586 = some (.aload_n 0, 1, 0, 0, []) := rfl
theorem rw_0_587 : mm_code 0 587 = some (.iload 4, 2, 0, 0, []) := rfl
theorem rw_0_589 : mm_code 0 589 = some (.iconst 2, 1, 2, 0, []) := rfl
theorem rw_0_590 : mm_code 0 590 = some (.iadd, 1, 0, 0, []) := rfl
theorem rw_0_591 : mm_code 0 591 = some (.iaload, 1, 0, 0, []) := rfl
theorem rw_0_592 : mm_code 0 592 = some (.invokevirtual 75, 3, 194, 3, [27, 0]) := rfl
theorem rw_0_595 : mm_code 0 595 = some (.pop, 1, 0, 0, []) := rfl
theorem rw_0_596 : mm_code 0 596 = some (.goto 717, 3, 1313, 0, []) := rfl
theorem rw_0_599 : mm_code 0 599 = some (.aload_n 1, 1, 0, 0, []) := rfl
theorem rw_0_600 : mm_code 0 600 = some (.aload_n 0, 1, 0, 0, []) := rfl
theorem rw_0_601 : mm_code 0 601 = some (.iload 4, 2, 0, 0, []) := rfl
theorem rw_0_603 : mm_code 0 603 = some (.iconst 1, 1, 1, 0, []) := rfl
theorem rw_0_604 : mm_code 0 604 = some (.iadd, 1, 0, 0, []) := rfl
theorem rw_0_605 : mm_code 0 605 = some (.iaload, 1, 0, 0, []) := rfl
theorem rw_0_606 : mm_code 0 606 = some (.aload_n 0, 1, 0, 0, []) := rfl
theorem rw_0_607 : mm_code 0 607 = some (.iload 4, 2, 0, 0, []) := rfl
theorem rw_0_609 : mm_code 0 609 = some (.iconst 2, 1, 2, 0, []) := rfl
theorem rw_0_610 : mm_code 0 610 = some (.iadd, 1, 0, 0, []) := rfl
theorem rw_0_611 : mm_code 0 611 = some (.iaload, 1, 0, 0, []) := rfl
theorem rw_0_612 : mm_code 0 612 = some (.aload_n 0, 1, 0, 0, []) := rfl
theorem rw_0_613 : mm_code 0 613 = some (.iload 4, 2, 0, 0, []) := rfl
theorem rw_0_615 : mm_code 0 615 = some (.iconst 3, 1, 3, 0, []) := rfl
theorem rw_0_616 : mm_code 0 616 = some (.iadd, 1, 0, 0, []) := rfl
theorem rw_0_617 : mm_code 0 617 = some (.iaload, 1, 0, 0, []) := rfl
theorem rw_0_618 : mm_code 0 618 = some (.ifCond .eq 7, 3, 625, 0, []) := rfl
theorem rw_0_621 : mm_code 0 621 = some (.iconst 1, 1, 1, 0, []) := rfl
theorem rw_0_622 : mm_code 0 622 = some (.goto 4, 3, 626, 0, []) := rfl
theorem rw_0_625 : mm_code 0 625 = some (.iconst 0, 1, 0, 0, []) := rfl
theorem rw_0_626 : mm_code 0 626 = some (.invokevirtual 76, 3, 121, 4, [28, 0]) := rfl
theorem rw_0_629 : mm_code 0 629 = some (.pop, 1, 0, 0, []) := rfl
theorem rw_0_630 : mm_code 0 630 = some (.aload_n 2, 1, 0, 0, []) := rfl
theorem rw_0_631 : mm_code 0 631 = some (.aload_n 0, 1, 0, 0, []) := rfl
theorem rw_0_632 : mm_code 0 632 = some (.iload 4, 2, 0, 0, []) := rfl
theorem rw_0_634 : mm_code 0 634 = some (.iconst 1, 1, 1, 0, []) := rfl
theorem rw_0_635 : mm_code 0 635 = some (.iadd, 1, 0, 0, []) := rfl
theorem rw_0_636 : mm_code 0 636 = some (.iaload, 1, 0, 0, []) := rfl
theorem rw_0_637 : mm_code 0 637 = some (.aload_n 0, 1, 0, 0, []) := rfl
theorem rw_0_638 : mm_code 0 638 = some (.iload 4, 2, 0, 0, []) := rfl
theorem rw_0_640 : mm_code 0 640 = some (.iconst 2, 1, 2, 0, []) := rfl
theorem rw_0_641 : mm_code 0 641 = some (.iadd, 1, 0, 0, []) := rfl
theorem rw_0_642 : mm_code 0 642 = some (.iaload, 1, 0, 0, []) := rfl
theorem rw_0_643 : mm_code 0 643 = some (.aload_n 0, 1, 0, 0, []) := rfl
theorem rw_0_644 : mm_code 0 644 = some (.iload 4, 2, 0, 0, []) := rfl
theorem rw_0_646 : mm_code 0 646 = some (.iconst 3, 1, 3, 0, []) := rfl
theorem rw_0_647 : mm_code 0 647 = some (.iadd, 1, 0, 0, []) := rfl
theorem rw_0_648 : mm_code 0 648 = some (.iaload, 1, 0, 0, []) := rfl
theorem rw_0_649 : mm_code 0 649 = some (.ifCond .eq 7, 3, 656, 0, []) := rfl
theorem rw_0_652 : mm_code 0 652 = some (.iconst 1, 1, 1, 0, []) := rfl
theorem rw_0_653 : mm_code 0 653 = some (.goto 4, 3, 657, 0, []) := rfl
theorem rw_0_656 : mm_code 0 656 = some (.iconst 0, 1, 0, 0, []) := rfl
theorem rw_0_657 : mm_code 0 657 = some (.invokevirtual 80, 3, 195, 4, [29, 0]) := rfl
theorem rw_0_660 : mm_code 0 660 = some (.pop, 1, 0, 0, []) := rfl
theorem rw_0_661 : mm_code 0 661 = some (.goto 652, 3, 1313, 0, []) := rfl
theorem rw_0_664 : mm_code 0 664 = some (.aload_n 1, 1, 0, 0, []) := rfl
theorem rw_0_665 : mm_code 0 665 = some (.aload_n 0, 1, 0, 0, []) := rfl
theorem rw_0_666 : mm_code 0 666 = some (.iload 4, 2, 0, 0, []) := rfl
theorem rw_0_668 : mm_code 0 668 = some (.iconst 1, 1, 1, 0, []) := rfl
theorem rw_0_669 : mm_code 0 669 = some (.iadd, 1, 0, 0, []) := rfl
theorem rw_0_670 : mm_code 0 670 = some (.iaload, 1, 0, 0, []) := rfl
theorem rw_0_671 : mm_code 0 671 = some (.aload_n 0, 1, 0, 0, []) := rfl
theorem rw_0_672 : mm_code 0 672 = some (.iload 4, 2, 0, 0, []) := rfl
theorem rw_0_674 : mm_code 0 674 = some (.iconst 2, 1, 2, 0, []) := rfl
theorem rw_0_675 : mm_code 0 675 = some (.iadd, 1, 0, 0, []) := rfl
theorem rw_0_676 : mm_code 0 676 = some (.iaload, 1, 0, 0, []) := rfl
theorem rw_0_677 : mm_code 0 677 = some (.invokevirtual 81, 3, 122, 3, [30, 0]) := rfl
theorem rw_0_680 : mm_code 0 680 = some (.pop, 1, 0, 0, []) := rfl
theorem rw_0_681 : mm_code 0 681 = some (.aload_n 2, 1, 0, 0, []) := rfl
theorem rw_0_682 : mm_code 0 682 = some (.aload_n 0, 1, 0, 0, []) := rfl
theorem rw_0_683 : mm_code 0 683 = some (.iload 4, 2, 0, 0, []) := rfl
theorem rw_0_685 : mm_code 0 685 = some (.iconst 1, 1, 1, 0, []) := rfl
theorem rw_0_686 : mm_code 0 686 = some (.iadd, 1, 0, 0, []) := rfl
theorem rw_0_687 : mm_code 0 687 = some (.iaload, 1, 0, 0, []) := rfl
theorem rw_0_688 : mm_code 0 688 = some (.aload_n 0, 1, 0, 0, []) := rfl
theorem rw_0_689 : mm_code 0 689 = some (.iload 4, 2, 0, 0, []) := rfl
theorem rw_0_691 : mm_code 0 691 = some (.iconst 2, 1, 2, 0, []) := rfl
theorem rw_0_692 : mm_code 0 692 = some (.iadd, 1, 0, 0, []) := rfl
theorem rw_0_693 : mm_code 0 693 = some (.iaload, 1, 0, 0, []) := rfl
theorem rw_0_694 : mm_code 0 694 = some (.invokevirtual 84, 3, 197, 3, [31, 0]) := rfl
theorem rw_0_697 : mm_code 0 697 = some (.pop, 1, 0, 0, []) := rfl
theorem rw_0_698 : mm_code 0 698 = some (.goto 615, 3, 1313, 0, []) := rfl
theorem rw_0_701 : mm_code 0 701 = some (.aload_n 1, 1, 0, 0, []) := rfl
theorem rw_0_702 : mm_code 0 702 = some (.aload_n 0, 1, 0, 0, []) := rfl
theorem rw_0_703 : mm_code 0 703 = some (.iload 4, 2, 0, 0, []) := rfl
theorem rw_0_705 : mm_code 0 705 = some (.iconst 1, 1, 1, 0, []) := rfl
theorem rw_0_706 : mm_code 0 706 = some (.iadd, 1, 0, 0, []) := rfl
theorem rw_0_707 : mm_code 0 707 = some (.iaload, 1, 0, 0, []) := rfl
theorem rw_0_708 : mm_code 0 708 = some (.invokevirtual 85, 3, 123, 2, [32, 0]) := rfl
theorem rw_0_711 : mm_code 0 711 = some (.aload_n 2, 1, 0, 0, []) := rfl
theorem rw_0_712 : mm_code 0 712 = some (.aload_n 0, 1, 0, 0, []) := rfl
theorem rw_0_713 : mm_code 0 713 = some (.iload 4, 2, 0, 0, []) := rfl
theorem rw_0_715 : mm_code 0 715 = some (.iconst 1, 1, 1, 0, []) := rfl
theorem rw_0_716 : mm_code 0 716 = some (.iadd, 1, 0, 0, []) := rfl
theorem rw_0_717 : mm_code 0 717 = some (.iaload, 1, 0, 0, []) := rfl
theorem rw_0_718 : mm_code 0 718 = some (.invokevirtual 88, 3, 198, 2, [33, 0]) := rfl
theorem rw_0_721 : mm_code 0 721 = some (.if_icmp .eq 592, 3, 1313, 0, []) := rfl
theorem rw_0_724 : mm_code 0 724 = some (.iconst 0, 1, 0, 0, []) := rfl
theorem rw_0_725 : mm_code 0 725 = some (.ireturn, 1, 1, 0, []) := rfl
theorem rw_0_726 : mm_code 0 726 = some (.aload_n 1, 1, 0, 0, []) := rfl
theorem rw_0_727 : mm_code 0 727 = some (.aload_n 0, 1, 0, 0, []) := rfl
theorem rw_0_728 : mm_code 0 728 = some (.iload 4, 2, 0, 0, []) := rfl
theorem rw_0_730 : mm_code 0 730 = some (.iconst 1, 1, 1, 0, []) := rfl
theorem rw_0_731 : mm_code 0 731 = some (.iadd, 1, 0, 0, []) := rfl
theorem rw_0_732 : mm_code 0 732 = some (.iaload, 1, 0, 0, []) := rfl
theorem rw_0_733 : mm_code 0 733 = some (.aload_n 0, 1, 0, 0, []) := rfl
theorem rw_0_734 : mm_code 0 734 = some (.iload 4, 2, 0, 0, []) := rfl
theorem rw_0_736 : mm_code 0 736 = some (.iconst 2, 1, 2, 0, []) := rfl
theorem rw_0_737 : mm_code 0 737 = some (.iadd, 1, 0, 0, []) := rfl
theorem rw_0_738 : mm_code 0 738 = some (.iaload, 1, 0, 0, []) := rfl
theorem rw_0_739 : mm_code 0 739 = some (.invokevirtual 89, 3, 124, 3, [34, 0]) := rfl
theorem rw_0_742 : mm_code 0 742 = some (.pop2, 1, 0, 0, []) := rfl
theorem rw_0_743 : mm_code 0 743 = some (.aload_n 2, 1, 0, 0, []) := rfl
theorem rw_0_744 : mm_code 0 744 = some (.aload_n 0, 1, 0, 0, []) := rfl
theorem rw_0_745 : mm_code 0 745 = some (.iload 4, 2, 0, 0, []) := rfl
theorem rw_0_747 : mm_code 0 747 = some (.iconst 1, 1, 1, 0, []) := rfl
theorem rw_0_748 : mm_code 0 748 = some (.iadd, 1, 0, 0, []) := rfl
theorem rw_0_749 : mm_code 0 749 = some (.iaload, 1, 0, 0, []) := rfl
theorem rw_0_750 : mm_code 0 750 = some (.aload_n 0, 1, 0, 0, []) := rfl
theorem rw_0_751 : mm_code 0 751 = some (.iload 4, 2, 0, 0, []) := rfl
theorem rw_0_753 : mm_code 0 753 = some (.iconst 2, 1, 2, 0, []) := rfl
theorem rw_0_754 : mm_code 0 754 = some (.iadd, 1, 0, 0, []) := rfl
theorem rw_0_755 : mm_code 0 755 = some (.iaload, 1, 0, 0, []) := rfl
theorem rw_0_756 : mm_code 0 756 = some (.invokevirtual 92, 3, 199, 3, [35, 0]) := rfl
theorem rw_0_759 : mm_code 0 759 = some (.pop2, 1, 0, 0, []) := rfl
theorem rw_0_760 : mm_code 0 760 = some (.goto 553, 3, 1313, 0, []) := rfl
theorem rw_0_763 : mm_code 0 763 = some (.aload_n 1, 1, 0, 0, []) := rfl
theorem rw_0_764 : mm_code 0 764 = some (.aload_n 0, 1, 0, 0, []) := rfl
theorem rw_0_765 : mm_code 0 765 = some (.iload 4, 2, 0, 0, []) := rfl
theorem rw_0_767 : mm_code 0 767 = some (.iconst 1, 1, 1, 0, []) := rfl
theorem rw_0_768 : mm_code 0 768 = some (.iadd, 1, 0, 0, []) := rfl
theorem rw_0_769 : mm_code 0 769 = some (.iaload, 1, 0, 0, []) := rfl
theorem rw_0_770 : mm_code 0 770 = some (.aload_n 0, 1, 0, 0, []) := rfl
theorem rw_0_771 : mm_code 0 771 = some (.iload 4, 2, 0, 0, []) := rfl
theorem rw_0_773 : mm_code 0 773 = some (.iconst 2, 1, 2, 0, []) := rfl
theorem rw_0_774 : mm_code 0 774 = some (.iadd, 1, 0, 0, []) := rfl
theorem rw_0_775 : mm_code 0 775 = some (.iaload, 1, 0, 0, []) := rfl
theorem rw_0_776 : mm_code 0 776 = some (.aload_n 0, 1, 0, 0, []) := rfl
theorem rw_0_777 : mm_code 0 777 = some (.iload 4, 2, 0, 0, []) := rfl
theorem rw_0_779 : mm_code 0 779 = some (.iconst 3, 1, 3, 0, []) := rfl
theorem rw_0_780 : mm_code 0 780 = some (.iadd, 1, 0, 0, []) := rfl
theorem rw_0_781 : mm_code 0 781 = some (.iaload, 1, 0, 0, []) := rfl
theorem rw_0_782 : mm_code 0 782 = some (.invokevirtual 93, 3, 125, 4, [36, 0]) := rfl
theorem rw_0_785 : mm_code 0 785 = some (.pop, 1, 0, 0, []) := rfl
theorem rw_0_786 : mm_code 0 786 = some (.aload_n 2, 1, 0, 0, []) := rfl
theorem rw_0_787 : mm_code 0 787 = some (.aload_n 0, 1, 0, 0, []) := rfl
theorem rw_0_788 : mm_code 0 788 = some (.iload 4, 2, 0, 0, []) := rfl
theorem rw_0_790 : mm_code 0 790 = some (.iconst 1, 1, 1, 0, []) := rfl
theorem rw_0_791 : mm_code 0 791 = some (.iadd, 1, 0, 0, []) := rfl
theorem rw_0_792 : mm_code 0 792 = some (.iaload, 1, 0, 0, []) := rfl
theorem rw_0_793 : mm_code 0 793 = some (.aload_n 0, 1, 0, 0, []) := rfl
theorem rw_0_794 : mm_code 0 794 = some (.iload 4, 2, 0, 0, []) := rfl
theorem rw_0_796 : mm_code 0 796 = some (.iconst 2, 1, 2, 0, []) := rfl
theorem rw_0_797 : mm_code 0 797 = some (.iadd, 1, 0, 0, []) := rfl
theorem rw_0_798 : mm_code 0 798 = some (.iaload, 1, 0, 0, []) := rfl
theorem rw_0_799 : mm_code 0 799 = some (.aload_n 0, 1, 0, 0, []) := rfl
theorem rw_0_800 : mm_code 0 800 = some (.iload 4, 2, 0, 0, []) := rfl
theorem rw_0_802 : mm_code 0 802 = some (.iconst 3, 1, 3, 0, []) := rfl
theorem rw_0_803 : mm_code 0 803 = some (.iadd, 1, 0, 0, []) := rfl
theorem rw_0_804 : mm_code 0 804 = some (.iaload, 1, 0, 0, []) := rfl
theorem rw_0_805 : mm_code 0 805 = some (.invokevirtual 96, 3, 201, 4, [37, 0]) := rfl
theorem rw_0_808 : mm_code 0 808 = some (.pop, 1, 0, 0, []) := rfl
theorem rw_0_809 : mm_code 0 809 = some (.goto 504, 3, 1313, 0, []) := rfl
theorem rw_0_812 : mm_code 0 812 = some (.aload_n 1, 1, 0, 0, []) := rfl
theorem rw_0_813 : mm_code 0 813 = some (.aload_n 0, 1, 0, 0, []) := rfl
theorem rw_0_814 : mm_code 0 814 = some (.iload 4, 2, 0, 0, []) := rfl
theorem rw_0_816 : mm_code 0 816 = some (.iconst 1, 1, 1, 0, []) := rfl
theorem rw_0_817 : mm_code 0 817 = some (.iadd, 1, 0, 0, []) := rfl
theorem rw_0_818 : mm_code 0 818 = some (.iaload, 1, 0, 0, []) := rfl
theorem rw_0_819 : mm_code 0 819 = some (.invokevirtual 97, 3, 126, 2, [38, 0]) := rfl
theorem rw_0_822 : mm_code 0 822 = some (.pop, 1, 0, 0, []) := rfl
theorem rw_0_823 : mm_code 0 823 = some (.aload_n 2, 1, 0, 0, []) := rfl
theorem rw_0_824 : mm_code 0 824 = some (.aload_n 0, 1, 0, 0, []) := rfl
theorem rw_0_825 : mm_code 0 825 = some (.iload 4, 2, 0, 0, []) := rfl
theorem rw_0_827 : mm_code 0 827 = some (.iconst 1, 1, 1, 0, []) := rfl
theorem rw_0_828 : mm_code 0 828 = some (.iadd, 1, 0, 0, []) := rfl
theorem rw_0_829 : mm_code 0 829 = some (.iaload, 1, 0, 0, []) := rfl
theorem rw_0_830 : mm_code 0 830 = some (.invokevirtual 101, 3, 202, 2, [39, 0]) := rfl
theorem rw_0_833 : mm_code 0 833 = some (.pop, 1, 0, 0, []) := rfl
theorem rw_0_834 : mm_code 0 834 = some (.goto 479, 3, 1313, 0, []) := rfl
theorem rw_0_837 : mm_code 0 837 = some (.aload_n 1, 1, 0, 0, []) := rfl
theorem rw_0_838 : mm_code 0 838 = some (.invokevirtual 102, 3, 127, 1, [40, 0]) := rfl
theorem rw_0_841 : mm_code 0 841 = some (.pop, 1, 0, 0, []) := rfl
theorem rw_0_842 : mm_code 0 842 = some (.aload_n 2, 1, 0, 0, []) := rfl
theorem rw_0_843 : mm_code 0 843 = some (.invokevirtual 105, 3, 203, 1, [41, 0]) := rfl
theorem rw_0_846 : mm_code 0 846 = some (.pop, 1, 0, 0, []) := rfl
theorem rw_0_847 : mm_code 0 847 = some (.goto 466, 3, 1313, 0, []) := rfl
theorem rw_0_850 : mm_code 0 850 = some (.aload_n 1, 1, 0, 0, []) := rfl
theorem rw_0_851 : mm_code 0 851 = some (.aload_n 0, 1, 0, 0, []) := rfl
theorem rw_0_852 : mm_code 0 852 = some (.iload 4, 2, 0, 0, []) := rfl
theorem rw_0_854 : mm_code 0 854 = some (.iconst 1, 1, 1, 0, []) := rfl
theorem rw_0_855 : mm_code 0 855 = some (.iadd, 1, 0, 0, []) := rfl
theorem rw_0_856 : mm_code 0 856 = some (.iaload, 1, 0, 0, []) := rfl
theorem rw_0_857 : mm_code 0 857 = some (.aload_n 0, 1, 0, 0, []) := rfl
theorem rw_0_858 : mm_code 0 858 = some (.iload 4, 2, 0, 0, []) := rfl
theorem rw_0_860 : mm_code 0 860 = some (.iconst 2, 1, 2, 0, []) := rfl
theorem rw_0_861 : mm_code 0 861 = some (.iadd, 1, 0, 0, []) := rfl
theorem rw_0_862 : mm_code 0 862 = some (.iaload, 1, 0, 0, []) := rfl
theorem rw_0_863 : mm_code 0 863 = some (.invokevirtual 106, 3, 128, 3, [42, 0]) := rfl
theorem rw_0_866 : mm_code 0 866 = some (.pop, 1, 0, 0, []) := rfl
theorem rw_0_867 : mm_code 0 867 = some (.aload_n 2, 1, 0, 0, []) := rfl
theorem rw_0_868 : mm_code 0 868 = some (.aload_n 0, 1, 0, 0, []) := rfl
theorem rw_0_869 : mm_code 0 869 = some (.iload 4, 2, 0, 0, []) := rfl
theorem rw_0_871 : mm_code 0 871 = some (.iconst 1, 1, 1, 0, []) := rfl
theorem rw_0_872 : mm_code 0 872 = some (.iadd, 1, 0, 0, []) := rfl
theorem rw_0_873 : mm_code 0 873 = some (.iaload, 1, 0, 0, []) := rfl
theorem rw_0_874 : mm_code 0 874 = some (.aload_n 0, 1, 0, 0, []) := rfl
theorem rw_0_875 : mm_code 0 875 = some (.iload 4, 2, 0, 0, []) := rfl
theorem rw_0_877 : mm_code 0 877 = some (.iconst 2, 1, 2, 0, []) := rfl
theorem rw_0_878 : mm_code 0 878 = some (.iadd, 1, 0, 0, []) := rfl
theorem rw_0_879 : mm_code 0 879 = some (.iaload, 1, 0, 0, []) := rfl
theorem rw_0_880 : mm_code 0 880 = some (.invokevirtual 109, 3, 205, 3, [43, 0]) := rfl
theorem rw_0_883 : mm_code 0 883 = some (.pop, 1, 0, 0, []) := rfl
theorem rw_0_884 : mm_code 0 884 = some (.goto 429, 3, 1313, 0, []) := rfl
theorem rw_0_887 : mm_code 0 887 = some (.aload_n 1, 1, 0, 0, []) := rfl
theorem rw_0_888 : mm_code 0 888 = some (.aload_n 0, 1, 0, 0, []) := rfl
theorem rw_0_889 : mm_code 0 889 = some (.iload 4, 2, 0, 0, []) := rfl
theorem rw_0_891 : mm_code 0 891 = some (.iconst 1, 1, 1, 0, []) := rfl
theorem rw_0_892 : mm_code 0 892 = some (.iadd, 1, 0, 0, []) := rfl
theorem rw_0_893 : mm_code 0 893 = some (.iaload, 1, 0, 0, []) := rfl
theorem rw_0_894 : mm_code 0 894 = some (.aload_n 0, 1, 0, 0, []) := rfl
theorem rw_0_895 : mm_code 0 895 = some (.iload 4, 2, 0, 0, []) := rfl
theorem rw_0_897 : mm_code 0 897 = some (.iconst 2, 1, 2, 0, []) := rfl
theorem rw_0_898 : mm_code 0 898 = some (.iadd, 1, 0, 0, []) := rfl
theorem rw_0_899 : mm_code 0 899 = some (.iaload, 1, 0, 0, []) := rfl
theorem rw_0_900 : mm_code 0 900 = some (.i2l, 1, 0, 0, []) := rfl
theorem rw_0_901 : mm_code 0 901 = some (.bipush 32, 2, 32, 0, []) := rfl
theorem rw_0_903 : mm_code 0 903 = some (.lshl, 1, 0, 0, []) := rfl
theorem rw_0_904 : mm_code 0 904 = some (.aload_n 0, 1, 0, 0, []) := rfl
theorem rw_0_905 : mm_code 0 905 = some (.iload 4, 2, 0, 0, []) := rfl
theorem rw_0_907 : mm_code 0 907 = some (.iconst 3, 1, 3, 0, []) := rfl
theorem rw_0_908 : mm_code 0 908 = some (.iadd, 1, 0, 0, []) := rfl
theorem rw_0_909 : mm_code 0 909 = some (.iaload, 1, 0, 0, []) := rfl
theorem rw_0_910 : mm_code 0 910 = some (.i2l, 1, 0, 0, []) := rfl
theorem rw_0_911 : mm_code 0 911 = some (.ldc2_w 110, 3, 4294967295, 0, [44]) := rfl
theorem rw_0_914 : mm_code 0 914 = some (.land, 1, 0, 0, []) := rfl
theorem rw_0_915 : mm_code 0 915 = some (.lor, 1, 0, 0, []) := rfl
theorem rw_0_916 : mm_code 0 916 = some (.invokevirtual 112, 3, 129, 3, [45, 0]) := rfl
theorem rw_0_919 : mm_code 0 919 = some (.pop, 1, 0, 0, []) := rfl
theorem rw_0_920 : mm_code 0 920 = some (.aload_n 2, 1, 0, 0, []) := rfl
theorem rw_0_921 : mm_code 0 921 = some (.aload_n 0, 1, 0, 0, []) := rfl
theorem rw_0_922 : mm_code 0 922 = some (.iload 4, 2, 0, 0, []) := rfl
theorem rw_0_924 : mm_code 0 924 = some (.iconst 1, 1, 1, 0, []) := rfl
theorem rw_0_925 : mm_code 0 925 = some (.iadd, 1, 0, 0, []) := rfl
theorem rw_0_926 : mm_code 0 926 = some (.iaload, 1, 0, 0, []) := rfl
theorem rw_0_927 : mm_code 0 927 = some (.aload_n 0, 1, 0, 0, []) := rfl
theorem rw_0_928 : mm_code 0 928 = some (.iload 4, 2, 0, 0, []) := rfl
theorem rw_0_930 : mm_code 0 930 = some (.iconst 2, 1, 2, 0, []) := rfl
theorem rw_0_931 : mm_code 0 931 = some (.iadd, 1, 0, 0, []) := rfl
theorem rw_0_932 : mm_code 0 932 = some (.iaload, 1, 0, 0, []) := rfl
theorem rw_0_933 : mm_code 0 933 = some (.i2l, 1, 0, 0, []) := rfl
theorem rw_0_934 : mm_code 0 934 = some (.bipush 32, 2, 32, 0, []) := rfl
theorem rw_0_936 : mm_code 0 936 = some (.lshl, 1, 0, 0, []) := rfl
theorem rw_0_937 : mm_code 0 937 = some (.aload_n 0, 1, 0, 0, []) := rfl
theorem rw_0_938 : mm_code 0 938 = some (.iload 4, 2, 0, 0, []) := rfl
theorem rw_0_940 : mm_code 0 940 = some (.iconst 3, 1, 3, 0, []) := rfl
theorem rw_0_941 : mm_code 0 941 = some (.iadd, 1, 0, 0, []) := rfl
theorem rw_0_942 : mm_code 0 942 = some (.iaload, 1, 0, 0, []) := rfl
theorem rw_0_943 : mm_code 0 943 = some (.i2l, 1, 0, 0, []) := rfl
theorem rw_0_944 : mm_code 0 944 = some (.ldc2_w 110, 3, 4294967295, 0, [44]) := rfl
theorem rw_0_947 : mm_code 0 947 = some (.land, 1, 0, 0, []) := rfl
theorem rw_0_948 : mm_code 0 948 = some (.lor, 1, 0, 0, []) := rfl
theorem rw_0_949 : mm_code 0 949 = some (.invokevirtual 116, 3, 207, 3, [46, 0]) := rfl
theorem rw_0_952 : mm_code 0 952 = some (.pop, 1, 0, 0, []) := rfl
theorem rw_0_953 : mm_code 0 953 = some (.goto 360, 3, 1313, 0, []) := rfl
theorem rw_0_956 : mm_code 0 956 = some (.aload_n 1, 1, 0, 0, []) := rfl
theorem rw_0_957 : mm_code 0 957 = some (.invokevirtual 117, 3, 130, 1, [47, 0]) := rfl
theorem rw_0_960 : mm_code 0 960 = some (.pop, 1, 0, 0, []) := rfl
theorem rw_0_961 : mm_code 0 961 = some (.aload_n 2, 1, 0, 0, []) := rfl
theorem rw_0_962 : mm_code 0 962 = some (.invokevirtual 120, 3, 208, 1, [48, 0]) := rfl
theorem rw_0_965 : mm_code 0 965 = some (.pop, 1, 0, 0, []) := rfl
theorem rw_0_966 : mm_code 0 966 = some (.goto 347, 3, 1313, 0, []) := rfl
theorem rw_0_969 : mm_code 0 969 = some (.aload_n 1, 1, 0, 0, []) := rfl
theorem rw_0_970 : mm_code 0 970 = some (.aload_n 0, 1, 0, 0, []) := rfl
theorem rw_0_971 : mm_code 0 971 = some (.iload 4, 2, 0, 0, []) := rfl
theorem rw_0_973 : mm_code 0 973 = some (.iconst 1, 1, 1, 0, []) := rfl
theorem rw_0_974 : mm_code 0 974 = some (.iadd, 1, 0, 0, []) := rfl
theorem rw_0_975 : mm_code 0 975 = some (.iaload, 1, 0, 0, []) := rfl
theorem rw_0_976 : mm_code 0 976 = some (.aload_n 0, 1, 0, 0, []) := rfl
theorem rw_0_977 : mm_code 0 977 = some (.iload 4, 2, 0, 0, []) := rfl
theorem rw_0_979 : mm_code 0 979 = some (.iconst 2, 1, 2, 0, []) := rfl
theorem rw_0_980 : mm_code 0 980 = some (.iadd, 1, 0, 0, []) := rfl
theorem rw_0_981 : mm_code 0 981 = some (.iaload, 1, 0, 0, []) := rfl
theorem rw_0_982 : mm_code 0 982 = some (.invokevirtual 121, 3, 131, 3, [49, 0]) := rfl
theorem rw_0_985 : mm_code 0 985 = some (.pop, 1, 0, 0, []) := rfl
theorem rw_0_986 : mm_code 0 986 = some (.aload_n 2, 1, 0, 0, []) := rfl
theorem rw_0_987 : mm_code 0 987 = some (.aload_n 0, 1, 0, 0, []) := rfl
theorem rw_0_988 : mm_code 0 988 = some (.iload 4, 2, 0, 0, []) := rfl
theorem rw_0_990 : mm_code 0 990 = some (.iconst 1, 1, 1, 0, []) := rfl
theorem rw_0_991 : mm_code 0 991 = some (.iadd, 1, 0, 0, []) := rfl
theorem rw_0_992 : mm_code 0 992 = some (.iaload, 1, 0, 0, []) := rfl
theorem rw_0_993 : mm_code 0 993 = some (.aload_n 0, 1, 0, 0, []) := rfl
theorem rw_0_994 : mm_code 0 994 = some (.iload 4, 2, 0, 0, []) := rfl
theorem rw_0_996 : mm_code 0 996 = some (.iconst 2, 1, 2, 0, []) := rfl
theorem rw_0_997 : mm_code 0 997 = some (.iadd, 1, 0, 0, []) := rfl
theorem rw_0_998 : mm_code 0 998 = some (.iaload, 1, 0, 0, []) := rfl
theorem rw_0_999 : mm_code 0 999 = some (.invokevirtual 124, 3, 228, 3, [50, 0]) := rfl
theorem rw_0_1002 : mm_code 0 1002 = some (.pop, 1, 0, 0, []) := rfl
theorem rw_0_1003 : mm_code 0 1003 = some (.goto 310, 3, 1313, 0, []) := rfl
theorem rw_0_1006 : mm_code 0 1006 = some (.aload_n 1, 1, 0, 0, []) := rfl
theorem rw_0_1007 : mm_code 0 1007 = some (.aload_n 0, 1, 0, 0, []) := rfl
theorem rw_0_1008 : mm_code 0 1008 = some (.iload 4, 2, 0, 0, []) := rfl
theorem rw_0_1010 : mm_code 0 1010 = some (.iconst 1, 1, 1, 0, []) := rfl
theorem rw_0_1011 : mm_code 0 1011 = some (.iadd, 1, 0, 0, []) := rfl
theorem rw_0_1012 : mm_code 0 1012 = some (.iaload, 1, 0, 0, []) := rfl
theorem rw_0_1013 : mm_code 0 1013 = some (.aload_n 0, 1, 0, 0, []) := rfl
theorem rw_0_1014 : mm_code 0 1014 = some (.iload 4, 2, 0, 0, []) := rfl
theorem rw_0_1016 : mm_code 0 1016 = some (.iconst 2, 1, 2, 0, []) := rfl
theorem rw_0_1017 : mm_code 0 1017 = some (.iadd, 1, 0, 0, []) := rfl
theorem rw_0_1018 : mm_code 0 1018 = some (.iaload, 1, 0, 0, []) := rfl
theorem rw_0_1019 : mm_code 0 1019 = some (.aload_n 0, 1, 0, 0, []) := rfl
theorem rw_0_1020 : mm_code 0 1020 = some (.iload 4, 2, 0, 0, []) := rfl
theorem rw_0_1022 : mm_code 0 1022 = some (.iconst 3, 1, 3, 0, []) := rfl
theorem rw_0_1023 : mm_code 0 1023 = some (.iadd, 1, 0, 0, []) := rfl
theorem rw_0_1024 : mm_code 0 1024 = some (.iaload, 1, 0, 0, []) := rfl
theorem rw_0_1025 : mm_code 0 1025 = some (.invokevirtual 125, 3, 132, 4, [51, 0]) := rfl
theorem rw_0_1028 : mm_code 0 1028 = some (.pop2, 1, 0, 0, []) := rfl
theorem rw_0_1029 : mm_code 0 1029 = some (.aload_n 2, 1, 0, 0, []) := rfl
theorem rw_0_1030 : mm_code 0 1030 = some (.aload_n 0, 1, 0, 0, []) := rfl
theorem rw_0_1031 : mm_code 0 1031 = some (.iload 4, 2, 0, 0, []) := rfl
theorem rw_0_1033 : mm_code 0 1033 = some (.iconst 1, 1, 1, 0, []) := rfl
theorem rw_0_1034 : mm_code 0 1034 = some (.iadd, 1, 0, 0, []) := rfl
theorem rw_0_1035 : mm_code 0 1035 = some (.iaload, 1, 0, 0, []) := rfl
theorem rw_0_1036 : mm_code 0 1036 = some (.aload_n 0, 1, 0, 0, []) := rfl
theorem rw_0_1037 : mm_code 0 1037 = some (.iload 4, 2, 0, 0, []) := rfl
theorem rw_0_1039 : mm_code 0 1039 = some (.iconst 2, 1, 2, 0, []) := rfl
theorem rw_0_1040 : mm_code 0 1040 = some (.iadd, 1, 0, 0, []) := rfl
theorem rw_0_1041 : mm_code 0 1041 = some (.iaload, 1, 0, 0, []) := rfl
theorem rw_0_1042 : mm_code 0 1042 = some (.aload_n 0, 1, 0, 0, []) := rfl
theorem rw_0_1043 : mm_code 0 1043 = some (.iload 4, 2, 0, 0, []) := rfl
theorem rw_0_1045 : mm_code 0 1045 = some (.iconst 3, 1, 3, 0, []) := rfl
theorem rw_0_1046 : mm_code 0 1046 = some (.iadd, 1, 0, 0, []) := rfl
theorem rw_0_1047 : mm_code 0 1047 = some (.iaload, 1, 0, 0, []) := rfl
theorem rw_0_1048 : mm_code 0 1048 = some (.invokevirtual 129, 3, 232, 4, [52, 0]) := rfl
theorem rw_0_1051 : mm_code 0 1051 = some (.pop2, 1, 0, 0, []) := rfl
theorem rw_0_1052 : mm_code 0 1052 = some (.goto 261, 3, 1313, 0, []) := rfl
theorem rw_0_1055 : mm_code 0 1055 = some (.aload_n 1, 1, 0, 0, []) := rfl
theorem rw_0_1056 : mm_code 0 1056 = some (.aload_n 0, 1, 0, 0, []) := rfl
theorem rw_0_1057 : mm_code 0 1057 = some (.iload 4, 2, 0, 0, []) := rfl
theorem rw_0_1059 : mm_code 0 1059 = some (.iconst 1, 1, 1, 0, []) := rfl
theorem rw_0_1060 : mm_code 0 1060 = some (.iadd, 1, 0, 0, []) := rfl
theorem rw_0_1061 : mm_code 0 1061 = some (.iaload, 1, 0, 0, []) := rfl
theorem rw_0_1062 : mm_code 0 1062 = some (.aload_n 0, 1, 0, 0, []) := rfl
theorem rw_0_1063 : mm_code 0 1063 = some (.iload 4, 2, 0, 0, []) := rfl
theorem rw_0_1065 : mm_code 0 1065 = some (.iconst 2, 1, 2, 0, []) := rfl
theorem rw_0_1066 : mm_code 0 1066 = some (.iadd, 1, 0, 0, []) := rfl
theorem rw_0_1067 : mm_code 0 1067 = some (.iaload, 1, 0, 0, []) := rfl
theorem rw_0_1068 : mm_code 0 1068 = some (.invokevirtual 130, 3, 133, 3, [53, 0]) := rfl
theorem rw_0_1071 : mm_code 0 1071 = some (.pop, 1, 0, 0, []) := rfl
theorem rw_0_1072 : mm_code 0 1072 = some (.aload_n 2, 1, 0, 0, []) := rfl
theorem rw_0_1073 : mm_code 0 1073 = some (.aload_n 0, 1, 0, 0, []) := rfl
theorem rw_0_1074 : mm_code 0 1074 = some (.iload 4, 2, 0, 0, []) := rfl
theorem rw_0_1076 : mm_code 0 1076 = some (.iconst 1, 1, 1, 0, []) := rfl
theorem rw_0_1077 : mm_code 0 1077 = some (.iadd, 1, 0, 0, []) := rfl
theorem rw_0_1078 : mm_code 0 1078 = some (.iaload, 1, 0, 0, []) := rfl
theorem rw_0_1079 : mm_code 0 1079 = some (.aload_n 0, 1, 0, 0, []) := rfl
theorem rw_0_1080 : mm_code 0 1080 = some (.iload 4, 2, 0, 0, []) := rfl
theorem rw_0_1082 : mm_code 0 1082 = some (.iconst 2, 1, 2, 0, []) := rfl
theorem rw_0_1083 : mm_code 0 1083 = some (.iadd, 1, 0, 0, []) := rfl
theorem rw_0_1084 : mm_code 0 1084 = some (.iaload, 1, 0, 0, []) := rfl
theorem rw_0_1085 : mm_code 0 1085 = some (.invokevirtual 133, 3, 234, 3, [54, 0]) := rfl
theorem rw_0_1088 : mm_code 0 1088 = some (.pop, 1, 0, 0, []) := rfl
theorem rw_0_1089 : mm_code 0 1089 = some (.goto 224, 3, 1313, 0, []) := rfl
theorem rw_0_1092 : mm_code 0 1092 = some (.aload_n 1, 1, 0, 0, []) := rfl
theorem rw_0_1093 : mm_code 0 1093 = some (.aload_n 0, 1, 0, 0, []) := rfl
theorem rw_0_1094 : mm_code 0 1094 = some (.iload 4, 2, 0, 0, []) := rfl
theorem rw_0_1096 : mm_code 0 1096 = some (.iconst 1, 1, 1, 0, []) := rfl
theorem rw_0_1097 : mm_code 0 1097 = some (.iadd, 1, 0, 0, []) := rfl
theorem rw_0_1098 : mm_code 0 1098 = some (.iaload, 1, 0, 0, []) := rfl
theorem rw_0_1099 : mm_code 0 1099 = some (.aload_n 0, 1, 0, 0, []) := rfl
theorem rw_0_1100 : mm_code 0 1100 = some (.iload 4, 2, 0, 0, []) := rfl
theorem rw_0_1102 : mm_code 0 1102 = some (.iconst 2, 1, 2, 0, []) := rfl
theorem rw_0_1103 : mm_code 0 1103 = some (.iadd, 1, 0, 0, []) := rfl
theorem rw_0_1104 : mm_code 0 1104 = some (.iaload, 1, 0, 0, []) := rfl
theorem rw_0_1105 : mm_code 0 1105 = some (.invokevirtual 134, 3, 134, 3, [55, 0]) := rfl
theorem rw_0_1108 : mm_code 0 1108 = some (.pop, 1, 0, 0, []) := rfl
theorem rw_0_1109 : mm_code 0 1109 = some (.aload_n 2, 1, 0, 0, []) := rfl
theorem rw_0_1110 : mm_code 0 1110 = some (.aload_n 0, 1, 0, 0, []) := rfl
theorem rw_0_1111 : mm_code 0 1111 = some (.iload 4, 2, 0, 0, []) := rfl
theorem rw_0_1113 : mm_code 0 1113 = some (.iconst 1, 1, 1, 0, []) := rfl
theorem rw_0_1114 : mm_code 0 1114 = some (.iadd, 1, 0, 0, []) := rfl
theorem rw_0_1115 : mm_code 0 1115 = some (.iaload, 1, 0, 0, []) := rfl
theorem rw_0_1116 : mm_code 0 1116 = some (.aload_n 0, 1, 0, 0, []) := rfl
theorem rw_0_1117 : mm_code 0 1117 = some (.iload 4, 2, 0, 0, []) := rfl
theorem rw_0_1119 : mm_code 0 1119 = some (.iconst 2, 1, 2, 0, []) := rfl
theorem rw_0_1120 : mm_code 0 1120 = some (.iadd, 1, 0, 0, []) := rfl
theorem rw_0_1121 : mm_code 0 1121 = some (.iaload, 1, 0, 0, []) := rfl
theorem rw_0_1122 : mm_code 0 1122 = some (.invokevirtual 137, 3, 236, 3, [56, 0]) := rfl
theorem rw_0_1125 : mm_code 0 1125 = some (.pop, 1, 0, 0, []) := rfl
theorem rw_0_1126 : mm_code 0 1126 = some (.goto 187, 3, 1313, 0, []) := rfl
theorem rw_0_1129 : mm_code 0 1129 = some (.aload_n 1, 1, 0, 0, []) := rfl
theorem rw_0_1130 : mm_code 0 1130 = some (.aload_n 0, 1, 0, 0, []) := rfl
theorem rw_0_1131 : mm_code 0 1131 = some (.iload 4, 2, 0, 0, []) := rfl
theorem rw_0_1133 : mm_code 0 1133 = some (.iconst 1, 1, 1, 0, []) := rfl
theorem rw_0_1134 : mm_code 0 1134 = some (.iadd, 1, 0, 0, []) := rfl
theorem rw_0_1135 : mm_code 0 1135 = some (.iaload, 1, 0, 0, []) := rfl
theorem rw_0_1136 : mm_code 0 1136 = some (.aload_n 0, 1, 0, 0, []) := rfl
theorem rw_0_1137 : mm_code 0 1137 = some (.iload 4, 2, 0, 0, []) := rfl
theorem rw_0_1139 : mm_code 0 1139 = some (.iconst 2, 1, 2, 0, []) := rfl
theorem rw_0_1140 : mm_code 0 1140 = some (.iadd, 1, 0, 0, []) := rfl
theorem rw_0_1141 : mm_code 0 1141 = some (.iaload, 1, 0, 0, []) := rfl
theorem rw_0_1142 : mm_code 0 1142 = some (.aload_n 0, 1, 0, 0, []) := rfl
theorem rw_0_1143 : mm_code 0 1143 = some (.iload 4, 2, 0, 0, []) := rfl
theorem rw_0_1145 : mm_code 0 1145 = some (.iconst 3, 1, 3, 0, []) := rfl
theorem rw_0_1146 : mm_code 0 1146 = some (.iadd, 1, 0, 0, []) := rfl
theorem rw_0_1147 : mm_code 0 1147 = some (.iaload, 1, 0, 0, []) := rfl
theorem rw_0_1148 : mm_code 0 1148 = some (.aload_n 0, 1, 0, 0, []) := rfl
theorem rw_0_1149 : mm_code 0 1149 = some (.iload 4, 2, 0, 0, []) := rfl
theorem rw_0_1151 : mm_code 0 1151 = some (.iconst 4, 1, 4, 0, []) := rfl
theorem rw_0_1152 : mm_code 0 1152 = some (.iadd, 1, 0, 0, []) := rfl
theorem rw_0_1153 : mm_code 0 1153 = some (.iaload, 1, 0, 0, []) := rfl
theorem rw_0_1154 : mm_code 0 1154 = some (.aload_n 0, 1, 0, 0, []) := rfl
theorem rw_0_1155 : mm_code 0 1155 = some (.iload 4, 2, 0, 0, []) := rfl
theorem rw_0_1157 : mm_code 0 1157 = some (.iconst 5, 1, 5, 0, []) := rfl
theorem rw_0_1158 : mm_code 0 1158 = some (.iadd, 1, 0, 0, []) := rfl
theorem rw_0_1159 : mm_code 0 1159 = some (.iaload, 1, 0, 0, []) := rfl
theorem rw_0_1160 : mm_code 0 1160 = some (.invokevirtual 138, 3, 135, 6, [57, 0]) := rfl
theorem rw_0_1163 : mm_code 0 1163 = some (.pop, 1, 0, 0, []) := rfl
theorem rw_0_1164 : mm_code 0 1164 = some (.aload_n 2, 1, 0, 0, []) := rfl
theorem rw_0_1165 : mm_code 0 1165 = some (.aload_n 0, 1, 0, 0, []) := rfl
theorem rw_0_1166 : mm_code 0 1166 = some (.iload 4, 2, 0, 0, []) := rfl
theorem rw_0_1168 : mm_code 0 1168 = some (.iconst 1, 1, 1, 0, []) := rfl
theorem rw_0_1169 : mm_code 0 1169 = some (.iadd, 1, 0, 0, []) := rfl
theorem rw_0_1170 : mm_code 0 1170 = some (.iaload, 1, 0, 0, []) := rfl
theorem rw_0_1171 : mm_code 0 1171 = some (.aload_n 0, 1, 0, 0, []) := rfl
theorem rw_0_1172 : mm_code 0 1172 = some (.iload 4, 2, 0, 0, []) := rfl
theorem rw_0_1174 : mm_code 0 1174 = some (.iconst 2, 1, 2, 0, []) := rfl
theorem rw_0_1175 : mm_code 0 1175 = some (.iadd, 1, 0, 0, []) := rfl
theorem rw_0_1176 : mm_code 0 1176 = some (.iaload, 1, 0, 0, []) := rfl
theorem rw_0_1177 : mm_code 0 1177 = some (.aload_n 0, 1, 0, 0, []) := rfl
theorem rw_0_1178 : mm_code 0 1178 = some (.iload 4, 2, 0, 0, []) := rfl
theorem rw_0_1180 : mm_code 0 1180 = some (.iconst 3, 1, 3, 0, []) := rfl
theorem rw_0_1181 : mm_code 0 1181 = some (.iadd, 1, 0, 0, []) := rfl
theorem rw_0_1182 : mm_code 0 1182 = some (.iaload, 1, 0, 0, []) := rfl
theorem rw_0_1183 : mm_code 0 1183 = some (.aload_n 0, 1, 0, 0, []) := rfl
theorem rw_0_1184 : mm_code 0 1184 = some (.iload 4, 2, 0, 0, []) := rfl
theorem rw_0_1186 : mm_code 0 1186 = some (.iconst 4, 1, 4, 0, []) := rfl
theorem rw_0_1187 : mm_code 0 1187 = some (.iadd, 1, 0, 0, []) := rfl
theorem rw_0_1188 : mm_code 0 1188 = some (.iaload, 1, 0, 0, []) := rfl
theorem rw_0_1189 : mm_code 0 1189 = some (.aload_n 0, 1, 0, 0, []) := rfl
theorem rw_0_1190 : mm_code 0 1190 = some (.iload 4, 2, 0, 0, []) := rfl
theorem rw_0_1192 : mm_code 0 1192 = some (.iconst 5, 1, 5, 0, []) := rfl
theorem rw_0_1193 : mm_code 0 1193 = some (.iadd, 1, 0, 0, []) := rfl
theorem rw_0_1194 : mm_code 0 1194 = some (.iaload, 1, 0, 0, []) := rfl
theorem rw_0_1195 : mm_code 0 1195 = some (.invokevirtual 141, 3, 237, 6, [58, 0]) := rfl
theorem rw_0_1198 : mm_code 0 1198 = some (.pop, 1, 0, 0, []) := rfl
theorem rw_0_1199 : mm_code 0 1199 = some (.goto 114, 3, 1313, 0, []) := rfl
theorem rw_0_1202 : mm_code 0 1202 = some (.aload_n 1, 1, 0, 0, []) := rfl
theorem rw_0_1203 : mm_code 0 1203 = some (.aload_n 0, 1, 0, 0, []) := rfl
theorem rw_0_1204 : mm_code 0 1204 = some (.iload 4, 2, 0, 0, []) := rfl
theorem rw_0_1206 : mm_code 0 1206 = some (.iconst 1, 1, 1, 0, []) := rfl
theorem rw_0_1207 : mm_code 0 1207 = some (.iadd, 1, 0, 0, []) := rfl
theorem rw_0_1208 : mm_code 0 1208 = some (.iaload, 1, 0, 0, []) := rfl
theorem rw_0_1209 : mm_code 0 1209 = some (.aload_n 0, 1, 0, 0, []) := rfl
theorem rw_0_1210 : mm_code 0 1210 = some (.iload 4, 2, 0, 0, []) := rfl
theorem rw_0_1212 : mm_code 0 1212 = some (.iconst 2, 1, 2, 0, []) := rfl
theorem rw_0_1213 : mm_code 0 1213 = some (.iadd, 1, 0, 0, []) := rfl
theorem rw_0_1214 : mm_code 0 1214 = some (.iaload, 1, 0, 0, []) := rfl
theorem rw_0_1215 : mm_code 0 1215 = some (.invokevirtual 142, 3, 136, 3, [59, 0]) := rfl
theorem rw_0_1218 : mm_code 0 1218 = some (.pop, 1, 0, 0, []) := rfl
theorem rw_0_1219 : mm_code 0 1219 = some (.aload_n 2, 1, 0, 0, []) := rfl
theorem rw_0_1220 : mm_code 0 1220 = some (.aload_n 0, 1, 0, 0, []) := rfl
theorem rw_0_1221 : mm_code 0 1221 = some (.iload 4, 2, 0, 0, []) := rfl
theorem rw_0_1223 : mm_code 0 1223 = some (.iconst 1, 1, 1, 0, []) := rfl
theorem rw_0_1224 : mm_code 0 1224 = some (.iadd, 1, 0, 0, []) := rfl
theorem rw_0_1225 : mm_code 0 1225 = some (.iaload, 1, 0, 0, []) := rfl
theorem rw_0_1226 : mm_code 0 1226 = some (.aload_n 0, 1, 0, 0, []) := rfl
theorem rw_0_1227 : mm_code 0 1227 = some (.iload 4, 2, 0, 0, []) := rfl
theorem rw_0_1229 : mm_code 0 1229 = some (.iconst 2, 1, 2, 0, []) := rfl
theorem rw_0_1230 : mm_code 0 1230 = some (.iadd, 1, 0, 0, []) := rfl
theorem rw_0_1231 : mm_code 0 1231 = some (.iaload, 1, 0, 0, []) := rfl
theorem rw_0_1232 : mm_code 0 1232 = some (.invokevirtual 145, 3, 241, 3, [60, 0]) := rfl
theorem rw_0_1235 : mm_code 0 1235 = some (.pop, 1, 0, 0, []) := rfl
theorem rw_0_1236 : mm_code 0 1236 = some (.goto 77, 3, 1313, 0, []) := rfl
theorem rw_0_1239 : mm_code 0 1239 = some (.aload_n 1, 1, 0, 0, []) := rfl
theorem rw_0_1240 : mm_code 0 1240 = some (.aload_n 0, 1, 0, 0, []) := rfl
theorem rw_0_1241 : mm_code 0 1241 = some (.iload 4, 2, 0, 0, []) := rfl
theorem rw_0_1243 : mm_code 0 1243 = some (.iconst 1, 1, 1, 0, []) := rfl
theorem rw_0_1244 : mm_code 0 1244 = some (.iadd, 1, 0, 0, []) := rfl
theorem rw_0_1245 : mm_code 0 1245 = some (.iaload, 1, 0, 0, []) := rfl
theorem rw_0_1246 : mm_code 0 1246 = some (.aload_n 0, 1, 0, 0, []) := rfl
theorem rw_0_1247 : mm_code 0 1247 = some (.iload 4, 2, 0, 0, []) := rfl
theorem rw_0_1249 : mm_code 0 1249 = some (.iconst 2, 1, 2, 0, []) := rfl
theorem rw_0_1250 : mm_code 0 1250 = some (.iadd, 1, 0, 0, []) := rfl
theorem rw_0_1251 : mm_code 0 1251 = some (.iaload, 1, 0, 0, []) := rfl
theorem rw_0_1252 : mm_code 0 1252 = some (.aload_n 0, 1, 0, 0, []) := rfl
theorem rw_0_1253 : mm_code 0 1253 = some (.iload 4, 2, 0, 0, []) := rfl
theorem rw_0_1255 : mm_code 0 1255 = some (.iconst 3, 1, 3, 0, []) := rfl
theorem rw_0_1256 : mm_code 0 1256 = some (.iadd, 1, 0, 0, []) := rfl
theorem rw_0_1257 : mm_code 0 1257 = some (.iaload, 1, 0, 0, []) := rfl
theorem rw_0_1258 : mm_code 0 1258 = some (.invokevirtual 146, 3, 137, 4, [61, 0]) := rfl
theorem rw_0_1261 : mm_code 0 1261 = some (.pop, 1, 0, 0, []) := rfl
theorem rw_0_1262 : mm_code 0 1262 = some (.aload_n 2, 1, 0, 0, []) := rfl
theorem rw_0_1263 : mm_code 0 1263 = some (.aload_n 0, 1, 0, 0, []) := rfl
theorem rw_0_1264 : mm_code 0 1264 = some (.iload 4, 2, 0, 0, []) := rfl
theorem rw_0_1266 : mm_code 0 1266 = some (.iconst 1, 1, 1, 0, []) := rfl
theorem rw_0_1267 : mm_code 0 1267 = some (.iadd, 1, 0, 0, []) := rfl
theorem rw_0_1268 : mm_code 0 1268 = some (.iaload, 1, 0, 0, []) := rfl
theorem rw_0_1269 : mm_code 0 1269 = some (.aload_n 0, 1, 0, 0, []) := rfl
theorem rw_0_1270 : mm_code 0 1270 = some (.iload 4, 2, 0, 0, []) := rfl
theorem rw_0_1272 : mm_code 0 1272 = some (.iconst 2, 1, 2, 0, []) := rfl
theorem rw_0_1273 : mm_code 0 1273 = some (.iadd, 1, 0, 0, []) := rfl
theorem rw_0_1274 : mm_code 0 1274 = some (.iaload, 1, 0, 0, []) := rfl
theorem rw_0_1275 : mm_code 0 1275 = some (.aload_n 0, 1, 0, 0, []) := rfl
theorem rw_0_1276 : mm_code 0 1276 = some (.iload 4, 2, 0, 0, []) := rfl
theorem rw_0_1278 : mm_code 0 1278 = some (.iconst 3, 1, 3, 0, []) := rfl
theorem rw_0_1279 : mm_code 0 1279 = some (.iadd, 1, 0, 0, []) := rfl
theorem rw_0_1280 : mm_code 0 1280 = some (.iaload, 1, 0, 0, []) := rfl
theorem rw_0_1281 : mm_code 0 1281 = some (.invokevirtual 149, 3, 244, 4, [62, 0]) := rfl
theorem rw_0_1284 : mm_code 0 1284 = some (.pop, 1, 0, 0, []) := rfl
theorem rw_0_1285 : mm_code 0 1285 = some (.goto 28, 3, 1313, 0, []) := rfl
theorem rw_0_1288 : mm_code 0 1288 = some (.aload_n 1, 1, 0, 0, []) := rfl
theorem rw_0_1289 : mm_code 0 1289 = some (.aload_n 0, 1, 0, 0, []) := rfl
theorem rw_0_1290 : mm_code 0 1290 = some (.iload 4, 2, 0, 0, []) := rfl
theorem rw_0_1292 : mm_code 0 1292 = some (.iconst 1, 1, 1, 0, []) := rfl
theorem rw_0_1293 : mm_code 0 1293 = some (.iadd, 1, 0, 0, []) := rfl
theorem rw_0_1294 : mm_code 0 1294 = some (.iaload, 1, 0, 0, []) := rfl
theorem rw_0_1295 : mm_code 0 1295 = some (.invokevirtual 150, 3, 138, 2, [63, 0]) := rfl
theorem rw_0_1298 : mm_code 0 1298 = some (.pop, 1, 0, 0, []) := rfl
theorem rw_0_1299 : mm_code 0 1299 = some (.aload_n 2, 1, 0, 0, []) := rfl
theorem rw_0_1300 : mm_code 0 1300 = some (.aload_n 0, 1, 0, 0, []) := rfl
theorem rw_0_1301 : mm_code 0 1301 = some (.iload 4, 2, 0, 0, []) := rfl
theorem rw_0_1303 : mm_code 0 1303 = some (.iconst 1, 1, 1, 0, []) := rfl
theorem rw_0_1304 : mm_code 0 1304 = some (.iadd, 1, 0, 0, []) := rfl
theorem rw_0_1305 : mm_code 0 1305 = some (.iaload, 1, 0, 0, []) := rfl
theorem rw_0_1306 : mm_code 0 1306 = some (.invokevirtual 153, 3, 245, 2, [64, 0]) := rfl
theorem rw_0_1309 : mm_code 0 1309 = some (.pop, 1, 0, 0, []) := rfl
theorem rw_0_1310 : mm_code 0 1310 = some (.goto 3, 3, 1313, 0, []) := rfl
theorem rw_0_1313 : mm_code 0 1313 = some (.iinc 4 6, 3, 6, 0, []) := rfl
theorem rw_0_1316 : mm_code 0 1316 = some (.goto (-1293), 3, 23, 0, []) := rfl
theorem rw_0_1319 : mm_code 0 1319 = some (.iconst 1, 1, 1, 0, []) := rfl
theorem rw_0_1320 : mm_code 0 1320 = some (.ireturn, 1, 1, 0, []) := rfl
