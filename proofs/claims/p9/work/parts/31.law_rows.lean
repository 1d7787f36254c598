theorem rw_0_0 : mm_code 0 0 = some (.new 8, 3, 10, 13, [0]) := rfl
theorem rw_0_3 : mm_code 0 3 = some (.dup, 1, 0, 0, []) := rfl
theorem rw_0_4 : mm_code 0 4 = some (.invokespecial 17, 3, 109, 1, [1, 0]) := rfl
theorem rw_0_7 : mm_code 0 7 = some (.astore_n 1, 1, 0, 0, []) := rfl
theorem rw_0_8 : mm_code 0 8 = some (.new 18, 3, 11, 78, [2]) := rfl
theorem rw_0_11 : mm_code 0 11 = some (.dup, 1, 0, 0, []) := rfl
theorem rw_0_12 : mm_code 0 12 = some (.invokespecial 20, 3, 146, 1, [3, 0]) := rfl
theorem rw_0_15 : mm_code 0 15 = some (.astore_n 2, 1, 0, 0, []) := rfl
theorem rw_0_16 : mm_code 0 16 = some (.iconst 1, 1, 1, 0, []) := rfl
theorem rw_0_17 : mm_code 0 17 = some (.newarray .long, 2, 101, 0, []) := rfl
theorem rw_0_19 : mm_code 0 19 = some (.astore_n 3, 1, 0, 0, []) := rfl
theorem rw_0_20 : mm_code 0 20 = some (.iconst 0, 1, 0, 0, []) := rfl
theorem rw_0_21 : mm_code 0 21 = some (.istore 4, 2, 0, 0, []) := rfl
theorem rw_0_23 : mm_code 0 23 = some (.iload 4, 2, 0, 0, []) := rfl
theorem rw_0_25 : mm_code 0 25 = some (.aload_n 0, 1, 0, 0, []) := rfl
theorem rw_0_26 : mm_code 0 26 = some (.arraylength, 1, 0, 0, []) := rfl
theorem rw_0_27 : mm_code 0 27 = some (.bipush 6, 2, 6, 0, []) := rfl
theorem rw_0_29 : mm_code 0 29 = some (.isub, 1, 0, 0, []) := rfl
theorem rw_0_30 : mm_code 0 30 = some (.if_icmp .gt 1290, 3, 1320, 0, []) := rfl
theorem rw_0_33 : mm_code 0 33 = some (.aload_n 0, 1, 0, 0, []) := rfl
theorem rw_0_34 : mm_code 0 34 = some (.iload 4, 2, 0, 0, []) := rfl
theorem rw_0_36 : mm_code 0 36 = some (.iaload, 1, 0, 0, []) := rfl
theorem rw_0_37 : mm_code 0 37 = some (.bipush 31, 2, 31, 0, []) := rfl
theorem rw_0_39 : mm_code 0 39 = some (.iand, 1, 0, 0, []) := rfl
theorem rw_0_40 : mm_code 0 40 = some (.tableswitch 1274 0 29 #[136, 209, 234, 259, 284, 309, 346, 386, 424, 461, 474, 523, 560, 625, 662, 687, 724, 773, 798, 811, 848, 917, 930, 967, 1016, 1053, 1090, 1163, 1200, 1249], 136, 1314, 0, [176, 249, 274, 299, 324, 349, 386, 426, 464, 501, 514, 563, 600, 665, 702, 727, 764, 813, 838, 851, 888, 957, 970, 1007, 1056, 1093, 1130, 1203, 1240, 1289]) := rfl
theorem rw_0_176 : mm_code 0 176 = some (.aload_n 1, 1, 0, 0, []) := rfl
theorem rw_0_177 : mm_code 0 177 = some (.aload_n 0, 1, 0, 0, []) := rfl
theorem rw_0_178 : mm_code 0 178 = some (.iload 4, 2, 0, 0, []) := rfl
theorem rw_0_180 : mm_code 0 180 = some (.iconst 1, 1, 1, 0, []) := rfl
theorem rw_0_181 : mm_code 0 181 = some (.iadd, 1, 0, 0, []) := rfl
theorem rw_0_182 : mm_code 0 182 = some (.iaload, 1, 0, 0, []) := rfl
theorem rw_0_183 : mm_code 0 183 = some (.aload_n 0, 1, 0, 0, []) := rfl
theorem rw_0_184 : mm_code 0 184 = some (.iload 4, 2, 0, 0, []) := rfl
theorem rw_0_186 : mm_code 0 186 = some (.iconst 2, 1, 2, 0, []) := rfl
theorem rw_0_187 : mm_code 0 187 = some (.iadd, 1, 0, 0, []) := rfl
theorem rw_0_188 : mm_code 0 188 = some (.iaload, 1, 0, 0, []) := rfl
theorem rw_0_189 : mm_code 0 189 = some (.aload_n 0, 1, 0, 0, []) := rfl
theorem rw_0_190 : mm_code 0 190 = some (.iload 4, 2, 0, 0, []) := rfl
theorem rw_0_192 : mm_code 0 192 = some (.iconst 3, 1, 3, 0, []) := rfl
theorem rw_0_193 : mm_code 0 193 = some (.iadd, 1, 0, 0, []) := rfl
theorem rw_0_194 : mm_code 0 194 = some (.iaload, 1, 0, 0, []) := rfl
theorem rw_0_195 : mm_code 0 195 = some (.aload_n 0, 1, 0, 0, []) := rfl
theorem rw_0_196 : mm_code 0 196 = some (.iload 4, 2, 0, 0, []) := rfl
theorem rw_0_198 : mm_code 0 198 = some (.iconst 4, 1, 4, 0, []) := rfl
theorem rw_0_199 : mm_code 0 199 = some (.iadd, 1, 0, 0, []) := rfl
theorem rw_0_200 : mm_code 0 200 = some (.iaload, 1, 0, 0, []) := rfl
theorem rw_0_201 : mm_code 0 201 = some (.aload_n 0, 1, 0, 0, []) := rfl
theorem rw_0_202 : mm_code 0 202 = some (.iload 4, 2, 0, 0, []) := rfl
theorem rw_0_204 : mm_code 0 204 = some (.iconst 5, 1, 5, 0, []) := rfl
theorem rw_0_205 : mm_code 0 205 = some (.iadd, 1, 0, 0, []) := rfl
theorem rw_0_206 : mm_code 0 206 = some (.iaload, 1, 0, 0, []) := rfl
theorem rw_0_207 : mm_code 0 207 = some (.invokevirtual 21, 3, 110, 6, [4, 0]) := rfl
theorem rw_0_210 : mm_code 0 210 = some (.pop, 1, 0, 0, []) := rfl
theorem rw_0_211 : mm_code 0 211 = some (.aload_n 2, 1, 0, 0, []) := rfl
theorem rw_0_212 : mm_code 0 212 = some (.aload_n 0, 1, 0, 0, []) := rfl
theorem rw_0_213 : mm_code 0 213 = some (.iload 4, 2, 0, 0, []) := rfl
theorem rw_0_215 : mm_code 0 215 = some (.iconst 1, 1, 1, 0, []) := rfl
theorem rw_0_216 : mm_code 0 216 = some (.iadd, 1, 0, 0, []) := rfl
theorem rw_0_217 : mm_code 0 217 = some (.iaload, 1, 0, 0, []) := rfl
theorem rw_0_218 : mm_code 0 218 = some (.aload_n 0, 1, 0, 0, []) := rfl
theorem rw_0_219 : mm_code 0 219 = some (.iload 4, 2, 0, 0, []) := rfl
theorem rw_0_221 : mm_code 0 221 = some (.iconst 2, 1, 2, 0, []) := rfl
theorem rw_0_222 : mm_code 0 222 = some (.iadd, 1, 0, 0, []) := rfl
theorem rw_0_223 : mm_code 0 223 = some (.iaload, 1, 0, 0, []) := rfl
theorem rw_0_224 : mm_code 0 224 = some (.aload_n 0, 1, 0, 0, []) := rfl
theorem rw_0_225 : mm_code 0 225 = some (.iload 4, 2, 0, 0, []) := rfl
theorem rw_0_227 : mm_code 0 227 = some (.iconst 3, 1, 3, 0, []) := rfl
theorem rw_0_228 : mm_code 0 228 = some (.iadd, 1, 0, 0, []) := rfl
theorem rw_0_229 : mm_code 0 229 = some (.iaload, 1, 0, 0, []) := rfl
theorem rw_0_230 : mm_code 0 230 = some (.aload_n 0, 1, 0, 0, []) := rfl
theorem rw_0_231 : mm_code 0 231 = some (.iload 4, 2, 0, 0, []) := rfl
theorem rw_0_233 : mm_code 0 233 = some (.iconst 4, 1, 4, 0, []) := rfl
theorem rw_0_234 : mm_code 0 234 = some (.iadd, 1, 0, 0, []) := rfl
theorem rw_0_235 : mm_code 0 235 = some (.iaload, 1, 0, 0, []) := rfl
theorem rw_0_236 : mm_code 0 236 = some (.aload_n 0, 1, 0, 0, []) := rfl
theorem rw_0_237 : mm_code 0 237 = some (.iload 4, 2, 0, 0, []) := rfl
theorem rw_0_239 : mm_code 0 239 = some (.iconst 5, 1, 5, 0, []) := rfl
theorem rw_0_240 : mm_code 0 240 = some (.iadd, 1, 0, 0, []) := rfl
theorem rw_0_241 : mm_code 0 241 = some (.iaload, 1, 0, 0, []) := rfl
theorem rw_0_242 : mm_code 0 242 = some (.invokevirtual 25, 3, 147, 6, [5, 0]) := rfl
theorem rw_0_245 : mm_code 0 245 = some (.pop, 1, 0, 0, []) := rfl
theorem rw_0_246 : mm_code 0 246 = some (.goto 1068, 3, 1314, 0, []) := rfl
theorem rw_0_249 : mm_code 0 249 = some (.aload_n 1, 1, 0, 0, []) := rfl
theorem rw_0_250 : mm_code 0 250 = some (.aload_n 0, 1, 0, 0, []) := rfl
theorem rw_0_251 : mm_code 0 251 = some (.iload 4, 2, 0, 0, []) := rfl
theorem rw_0_253 : mm_code 0 253 = some (.iconst 1, 1, 1, 0, []) := rfl
theorem rw_0_254 : mm_code 0 254 = some (.iadd, 1, 0, 0, []) := rfl
theorem rw_0_255 : mm_code 0 255 = some (.iaload, 1, 0, 0, []) := rfl
theorem rw_0_256 : mm_code 0 256 = some (.invokevirtual 26, 3, 111, 2, [6, 0]) := rfl
theorem rw_0_259 : mm_code 0 259 = some (.pop, 1, 0, 0, []) := rfl
theorem rw_0_260 : mm_code 0 260 = some (.aload_n 2, 1, 0, 0, []) := rfl
theorem rw_0_261 : mm_code 0 261 = some (.aload_n 0, 1, 0, 0, []) := rfl
theorem rw_0_262 : mm_code 0 262 = some (.iload 4, 2, 0, 0, []) := rfl
theorem rw_0_264 : mm_code 0 264 = some (.iconst 1, 1, 1, 0, []) := rfl
theorem rw_0_265 : mm_code 0 265 = some (.iadd, 1, 0, 0, []) := rfl
theorem rw_0_266 : mm_code 0 266 = some (.iaload, 1, 0, 0, []) := rfl
theorem rw_0_267 : mm_code 0 267 = some (.invokevirtual 30, 3, 172, 2, [7, 0]) := rfl
theorem rw_0_270 : mm_code 0 270 = some (.pop, 1, 0, 0, []) := rfl
theorem rw_0_271 : mm_code 0 271 = some (.goto 1043, 3, 1314, 0, []) := rfl
theorem rw_0_274 : mm_code 0 274 = some (.aload_n 1, 1, 0, 0, []) := rfl
theorem rw_0_275 : mm_code 0 275 = some (.aload_n 0, 1, 0, 0, []) := rfl
theorem rw_0_276 : mm_code 0 276 = some (.iload 4, 2, 0, 0, []) := rfl
theorem rw_0_278 : mm_code 0 278 = some (.iconst 1, 1, 1, 0, []) := rfl
theorem rw_0_279 : mm_code 0 279 = some (.iadd, 1, 0, 0, []) := rfl
theorem rw_0_280 : mm_code 0 280 = some (.iaload, 1, 0, 0, []) := rfl
theorem rw_0_281 : mm_code 0 281 = some (.invokevirtual 31, 3, 112, 2, [8, 0]) := rfl
theorem rw_0_284 : mm_code 0 284 = some (.pop, 1, 0, 0, []) := rfl
theorem rw_0_285 : mm_code 0 285 = some (.aload_n 2, 1, 0, 0, []) := rfl
theorem rw_0_286 : mm_code 0 286 = some (.aload_n 0, 1, 0, 0, []) := rfl
theorem rw_0_287 : mm_code 0 287 = some (.iload 4, 2, 0, 0, []) := rfl
theorem rw_0_289 : mm_code 0 289 = some (.iconst 1, 1, 1, 0, []) := rfl
theorem rw_0_290 : mm_code 0 290 = some (.iadd, 1, 0, 0, []) := rfl
theorem rw_0_291 : mm_code 0 291 = some (.iaload, 1, 0, 0, []) := rfl
theorem rw_0_292 : mm_code 0 292 = some (.invokevirtual 34, 3, 218, 2, [9, 0]) := rfl
theorem rw_0_295 : mm_code 0 295 = some (.pop, 1, 0, 0, []) := rfl
theorem rw_0_296 : mm_code 0 296 = some (.goto 1018, 3, 1314, 0, []) := rfl
theorem rw_0_299 : mm_code 0 299 = some (.aload_n 1, 1, 0, 0, []) := rfl
theorem rw_0_300 : mm_code 0 300 = some (.aload_n 0, 1, 0, 0, []) := rfl
theorem rw_0_301 : mm_code 0 301 = some (.iload 4, 2, 0, 0, []) := rfl
theorem rw_0_303 : mm_code 0 303 = some (.iconst 1, 1, 1, 0, []) := rfl
theorem rw_0_304 : mm_code 0 304 = some (.iadd, 1, 0, 0, []) := rfl
theorem rw_0_305 : mm_code 0 305 = some (.iaload, 1, 0, 0, []) := rfl
theorem rw_0_306 : mm_code 0 306 = some (.invokevirtual 35, 3, 113, 2, [10, 0]) := rfl
theorem rw_0_309 : mm_code 0 309 = some (.pop, 1, 0, 0, []) := rfl
theorem rw_0_310 : mm_code 0 310 = some (.aload_n 2, 1, 0, 0, []) := rfl
theorem rw_0_311 : mm_code 0 311 = some (.aload_n 0, 1, 0, 0, []) := rfl
theorem rw_0_312 : mm_code 0 312 = some (.iload 4, 2, 0, 0, []) := rfl
theorem rw_0_314 : mm_code 0 314 = some (.iconst 1, 1, 1, 0, []) := rfl
theorem rw_0_315 : mm_code 0 315 = some (.iadd, 1, 0, 0, []) := rfl
theorem rw_0_316 : mm_code 0 316 = some (.iaload, 1, 0, 0, []) := rfl
theorem rw_0_317 : mm_code 0 317 = some (.invokevirtual 38, 3, 226, 2, [11, 0]) := rfl
theorem rw_0_320 : mm_code 0 320 = some (.pop, 1, 0, 0, []) := rfl
theorem rw_0_321 : mm_code 0 321 = some (.goto 993, 3, 1314, 0, []) := rfl
theorem rw_0_324 : mm_code 0 324 = some (.aload_n 1, 1, 0, 0, []) := rfl
theorem rw_0_325 : mm_code 0 325 = some (.aload_n 0, 1, 0, 0, []) := rfl
theorem rw_0_326 : mm_code 0 326 = some (.iload 4, 2, 0, 0, []) := rfl
theorem rw_0_328 : mm_code 0 328 = some (.iconst 1, 1, 1, 0, []) := rfl
theorem rw_0_329 : mm_code 0 329 = some (.iadd, 1, 0, 0, []) := rfl
theorem rw_0_330 : mm_code 0 330 = some (.iaload, 1, 0, 0, []) := rfl
theorem rw_0_331 : mm_code 0 331 = some (.invokevirtual 39, 3, 114, 2, [12, 0]) := rfl
theorem rw_0_334 : mm_code 0 334 = some (.pop, 1, 0, 0, []) := rfl
theorem rw_0_335 : mm_code 0 335 = some (.aload_n 2, 1, 0, 0, []) := rfl
theorem rw_0_336 : mm_code 0 336 = some (.aload_n 0, 1, 0, 0, []) := rfl
theorem rw_0_337 : mm_code 0 337 = some (.iload 4, 2, 0, 0, []) := rfl
theorem rw_0_339 : mm_code 0 339 = some (.iconst 1, 1, 1, 0, []) := rfl
theorem rw_0_340 : mm_code 0 340 = some (.iadd, 1, 0, 0, []) := rfl
theorem rw_0_341 : mm_code 0 341 = some (.iaload, 1, 0, 0, []) := rfl
theorem rw_0_342 : mm_code 0 342 = some (.invokevirtual 42, 3, 173, 2, [13, 0]) := rfl
theorem rw_0_345 : mm_code 0 345 = some (.pop, 1, 0, 0, []) := rfl
theorem rw_0_346 : mm_code 0 346 = some (.goto 968, 3, 1314, 0, []) := rfl
theorem rw_0_349 : mm_code 0 349 = some (.aload_n 1, 1, 0, 0, []) := rfl
theorem rw_0_350 : mm_code 0 350 = some (.aload_n 0, 1, 0, 0, []) := rfl
theorem rw_0_351 : mm_code 0 351 = some (.iload 4, 2, 0, 0, []) := rfl
theorem rw_0_353 : mm_code 0 353 = some (.iconst 1, 1, 1, 0, []) := rfl
theorem rw_0_354 : mm_code 0 354 = some (.iadd, 1, 0, 0, []) := rfl
theorem rw_0_355 : mm_code 0 355 = some (.iaload, 1, 0, 0, []) := rfl
theorem rw_0_356 : mm_code 0 356 = some (.aload_n 0, 1, 0, 0, []) := rfl
theorem rw_0_357 : mm_code 0 357 = some (.iload 4, 2, 0, 0, []) := rfl
theorem rw_0_359 : mm_code 0 359 = some (.iconst 2, 1, 2, 0, []) := rfl
theorem rw_0_360 : mm_code 0 360 = some (.iadd, 1, 0, 0, []) := rfl
theorem rw_0_361 : mm_code 0 361 = some (.iaload, 1, 0, 0, []) := rfl
theorem rw_0_362 : mm_code 0 362 = some (.invokevirtual 43, 3, 115, 3, [14, 0]) := rfl
theorem rw_0_365 : mm_code 0 365 = some (.pop, 1, 0, 0, []) := rfl
theorem rw_0_366 : mm_code 0 366 = some (.aload_n 2, 1, 0, 0, []) := rfl
theorem rw_0_367 : mm_code 0 367 = some (.aload_n 0, 1, 0, 0, []) := rfl
theorem rw_0_368 : mm_code 0 368 = some (.iload 4, 2, 0, 0, []) := rfl
theorem rw_0_370 : mm_code 0 370 = some (.iconst 1, 1, 1, 0, []) := rfl
theorem rw_0_371 : mm_code 0 371 = some (.iadd, 1, 0, 0, []) := rfl
theorem rw_0_372 : mm_code 0 372 = some (.iaload, 1, 0, 0, []) := rfl
theorem rw_0_373 : mm_code 0 373 = some (.aload_n 0, 1, 0, 0, []) := rfl
theorem rw_0_374 : mm_code 0 374 = some (.iload 4, 2, 0, 0, []) := rfl
theorem rw_0_376 : mm_code 0 376 = some (.iconst 2, 1, 2, 0, []) := rfl
theorem rw_0_377 : mm_code 0 377 = some (.iadd, 1, 0, 0, []) := rfl
theorem rw_0_378 : mm_code 0 378 = some (.iaload, 1, 0, 0, []) := rfl
theorem rw_0_379 : mm_code 0 379 = some (.invokevirtual 46, 3, 176, 3, [15, 0]) := rfl
theorem rw_0_382 : mm_code 0 382 = some (.pop, 1, 0, 0, []) := rfl
theorem rw_0_383 : mm_code 0 383 = some (.goto 931, 3, 1314, 0, []) := rfl
theorem rw_0_386 : mm_code 0 386 = some (.aload_n 1, 1, 0, 0, []) := rfl
theorem rw_0_387 : mm_code 0 387 = some (.aload_n 0, 1, 0, 0, []) := rfl
theorem rw_0_388 : mm_code 0 388 = some (.iload 4, 2, 0, 0, []) := rfl
theorem rw_0_390 : mm_code 0 390 = some (.iconst 1, 1, 1, 0, []) := rfl
theorem rw_0_391 : mm_code 0 391 = some (.iadd, 1, 0, 0, []) := rfl
theorem rw_0_392 : mm_code 0 392 = some (.iaload, 1, 0, 0, []) := rfl
theorem rw_0_393 : mm_code 0 393 = some (.aload_n 0, 1, 0, 0, []) := rfl
theorem rw_0_394 : mm_code 0 394 = some (.iload 4, 2, 0, 0, []) := rfl
theorem rw_0_396 : mm_code 0 396 = some (.iconst 2, 1, 2, 0, []) := rfl
theorem rw_0_397 : mm_code 0 397 = some (.iadd, 1, 0, 0, []) := rfl
theorem rw_0_398 : mm_code 0 398 = some (.iaload, 1, 0, 0, []) := rfl
theorem rw_0_399 : mm_code 0 399 = some (.aload_n 3, 1, 0, 0, []) := rfl
theorem rw_0_400 : mm_code 0 400 = some (.invokestatic 47, 3, 998, 4, [16, 0]) := rfl
theorem rw_0_403 : mm_code 0 403 = some (.istore 5, 2, 0, 0, []) := rfl
theorem rw_0_405 : mm_code 0 405 = some (.aload_n 2, 1, 0, 0, []) := rfl
theorem rw_0_406 : mm_code 0 406 = some (.aload_n 0, 1, 0, 0, []) := rfl
theorem rw_0_407 : mm_code 0 407 = some (.iload 4, 2, 0, 0, []) := rfl
theorem rw_0_409 : mm_code 0 409 = some (.iconst 1, 1, 1, 0, []) := rfl
theorem rw_0_410 : mm_code 0 410 = some (.iadd, 1, 0, 0, []) := rfl
theorem rw_0_411 : mm_code 0 411 = some (.iaload, 1, 0, 0, []) := rfl
theorem rw_0_412 : mm_code 0 412 = some (.aload_n 0, 1, 0, 0, []) := rfl
theorem rw_0_413 : mm_code 0 413 = some (.iload 4, 2, 0, 0, []) := rfl
theorem rw_0_415 : mm_code 0 415 = some (.iconst 2, 1, 2, 0, []) := rfl
theorem rw_0_416 : mm_code 0 416 = some (.iadd, 1, 0, 0, []) := rfl
theorem rw_0_417 : mm_code 0 417 = some (.iaload, 1, 0, 0, []) := rfl
theorem rw_0_418 : mm_code 0 418 = some (.invokevirtual 52, 3, 181, 3, [17, 0]) := rfl
theorem rw_0_421 : mm_code 0 421 = some (.istore 6, 2, 0, 0, []) := rfl
theorem rw_0_423 : mm_code 0 423 = some (.goto 891, 3, 1314, 0, []) := rfl
theorem rw_0_426 : mm_code 0 426 = some (.aload_n 1, 1, 0, 0, []) := rfl
theorem rw_0_427 : mm_code 0 427 = some (.aload_n 0, 1, 0, 0, []) := rfl
theorem rw_0_428 : mm_code 0 428 = some (.iload 4, 2, 0, 0, []) := rfl
theorem rw_0_430 : mm_code 0 430 = some (.iconst 1, 1, 1, 0, []) := rfl
theorem rw_0_431 : mm_code 0 431 = some (.iadd, 1, 0, 0, []) := rfl
theorem rw_0_432 : mm_code 0 432 = some (.iaload, 1, 0, 0, []) := rfl
theorem rw_0_433 : mm_code 0 433 = some (.aload_n 0, 1, 0, 0, []) := rfl
theorem rw_0_434 : mm_code 0 434 = some (.iload 4, 2, 0, 0, []) := rfl
theorem rw_0_436 : mm_code 0 436 = some (.iconst 2, 1, 2, 0, []) := rfl
theorem rw_0_437 : mm_code 0 437 = some (.iadd, 1, 0, 0, []) := rfl
theorem rw_0_438 : mm_code 0 438 = some (.iaload, 1, 0, 0, []) := rfl
theorem rw_0_439 : mm_code 0 439 = some (.invokevirtual 53, 3, 116, 3, [18, 0]) := rfl
theorem rw_0_442 : mm_code 0 442 = some (.aload_n 2, 1, 0, 0, []) := rfl
theorem rw_0_443 : mm_code 0 443 = some (.aload_n 0, 1, 0, 0, []) := rfl
theorem rw_0_444 : mm_code 0 444 = some (.iload 4, 2, 0, 0, []) := rfl
theorem rw_0_446 : mm_code 0 446 = some (.iconst 1, 1, 1, 0, []) := rfl
theorem rw_0_447 : mm_code 0 447 = some (.iadd, 1, 0, 0, []) := rfl
theorem rw_0_448 : mm_code 0 448 = some (.iaload, 1, 0, 0, []) := rfl
theorem rw_0_449 : mm_code 0 449 = some (.aload_n 0, 1, 0, 0, []) := rfl
theorem rw_0_450 : mm_code 0 450 = some (.iload 4, 2, 0, 0, []) := rfl
theorem rw_0_452 : mm_code 0 452 = some (.iconst 2, 1, 2, 0, []) := rfl
theorem rw_0_453 : mm_code 0 453 = some (.iadd, 1, 0, 0, []) := rfl
theorem rw_0_454 : mm_code 0 454 = some (.iaload, 1, 0, 0, []) := rfl
theorem rw_0_455 : mm_code 0 455 = some (.invokevirtual 57, 3, 184, 3, [19, 0]) := rfl
theorem rw_0_458 : mm_code 0 458 = some (.lcmp, 1, 0, 0, []) := rfl
theorem rw_0_459 : mm_code 0 459 = some (.ifCond .eq 855, 3, 1314, 0, []) := rfl
theorem rw_0_462 : mm_code 0 462 = some (.iconst 0, 1, 0, 0, []) := rfl
theorem rw_0_463 : mm_code 0 463 = some (.ireturn, 1, 1, 0, []) := rfl
theorem rw_0_464 : mm_code 0 464 = some (.aload_n 1, 1, 0, 0, []) := rfl
theorem rw_0_465 : mm_code 0 465 = some (.aload_n 0, 1, 0, 0, []) := rfl
theorem rw_0_466 : mm_code 0 466 = some (.iload 4, 2, 0, 0, []) := rfl
theorem rw_0_468 : mm_code 0 468 = some (.iconst 1, 1, 1, 0, []) := rfl
theorem rw_0_469 : mm_code 0 469 = some (.iadd, 1, 0, 0, []) := rfl
theorem rw_0_470 : mm_code 0 470 = some (.iaload, 1, 0, 0, []) := rfl
theorem rw_0_471 : mm_code 0 471 = some (.aload_n 0, 1, 0, 0, []) := rfl
theorem rw_0_472 : mm_code 0 472 = some (.iload 4, 2, 0, 0, []) := rfl
theorem rw_0_474 : mm_code 0 474 = some (.iconst 2, 1, 2, 0, []) := rfl
theorem rw_0_475 : mm_code 0 475 = some (.iadd, 1, 0, 0, []) := rfl
theorem rw_0_476 : mm_code 0 476 = some (.iaload, 1, 0, 0, []) := rfl
theorem rw_0_477 : mm_code 0 477 = some (.invokevirtual 58, 3, 117, 3, [20, 0]) := rfl
theorem rw_0_480 : mm_code 0 480 = some (.pop2, 1, 0, 0, []) := rfl
theorem rw_0_481 : mm_code 0 481 = some (.aload_n 2, 1, 0, 0, []) := rfl
theorem rw_0_482 : mm_code 0 482 = some (.aload_n 0, 1, 0, 0, []) := rfl
theorem rw_0_483 : mm_code 0 483 = some (.iload 4, 2, 0, 0, []) := rfl
theorem rw_0_485 : mm_code 0 485 = some (.iconst 1, 1, 1, 0, []) := rfl
theorem rw_0_486 : mm_code 0 486 = some (.iadd, 1, 0, 0, []) := rfl
theorem rw_0_487 : mm_code 0 487 = some (.iaload, 1, 0, 0, []) := rfl
theorem rw_0_488 : mm_code 0 488 = some (.aload_n 0, 1, 0, 0, []) := rfl
theorem rw_0_489 : mm_code 0 489 = some (.iload 4, 2, 0, 0, []) := rfl
theorem rw_0_491 : mm_code 0 491 = some (.iconst 2, 1, 2, 0, []) := rfl
theorem rw_0_492 : mm_code 0 492 = some (.iadd, 1, 0, 0, []) := rfl
theorem rw_0_493 : mm_code 0 493 = some (.iaload, 1, 0, 0, []) := rfl
theorem rw_0_494 : mm_code 0 494 = some (.invokevirtual 61, 3, 191, 3, [21, 0]) := rfl
theorem rw_0_497 : mm_code 0 497 = some (.pop2, 1, 0, 0, []) := rfl
theorem rw_0_498 : mm_code 0 498 = some (.goto 816, 3, 1314, 0, []) := rfl
theorem rw_0_501 : mm_code 0 501 = some (.aload_n 1, 1, 0, 0, []) := rfl
theorem rw_0_502 : mm_code 0 502 = some (.invokevirtual 62, 3, 118, 1, [22, 0]) := rfl
theorem rw_0_505 : mm_code 0 505 = some (.pop, 1, 0, 0, []) := rfl
theorem rw_0_506 : mm_code 0 506 = some (.aload_n 2, 1, 0, 0, []) := rfl
theorem rw_0_507 : mm_code 0 507 = some (.invokevirtual 66, 3, 192, 1, [23, 0]) := rfl
theorem rw_0_510 : mm_code 0 510 = some (.pop, 1, 0, 0, []) := rfl
theorem rw_0_511 : mm_code 0 511 = some (.goto 803, 3, 1314, 0, []) := rfl
theorem rw_0_514 : mm_code 0 514 = some (.aload_n 1, 1, 0, 0, []) := rfl
theorem rw_0_515 : mm_code 0 515 = some (.aload_n 0, 1, 0, 0, []) := rfl
theorem rw_0_516 : mm_code 0 516 = some (.iload 4, 2, 0, 0, []) := rfl
theorem rw_0_518 : mm_code 0 518 = some (.iconst 1, 1, 1, 0, []) := rfl
theorem rw_0_519 : mm_code 0 519 = some (.iadd, 1, 0, 0, []) := rfl
theorem rw_0_520 : mm_code 0 520 = some (.iaload, 1, 0, 0, []) := rfl
theorem rw_0_521 : mm_code 0 521 = some (.aload_n 0, 1, 0, 0, []) := rfl
theorem rw_0_522 : mm_code 0 522 = some (.iload 4, 2, 0, 0, []) := rfl
theorem rw_0_524 : mm_code 0 524 = some (.iconst 2, 1, 2, 0, []) := rfl
theorem rw_0_525 : mm_code 0 525 = some (.iadd, 1, 0, 0, []) := rfl
theorem rw_0_526 : mm_code 0 526 = some (.iaload, 1, 0, 0, []) := rfl
theorem rw_0_527 : mm_code 0 527 = some (.aload_n 0, 1, 0, 0, []) := rfl
theorem rw_0_528 : mm_code 0 528 = some (.iload 4, 2, 0, 0, []) := rfl
theorem rw_0_530 : mm_code 0 530 = some (.iconst 3, 1, 3, 0, []) := rfl
theorem rw_0_531 : mm_code 0 531 = some (.iadd, 1, 0, 0, []) := rfl
theorem rw_0_532 : mm_code 0 532 = some (.iaload, 1, 0, 0, []) := rfl
theorem rw_0_533 : mm_code 0 533 = some (.invokevirtual 67, 3, 119, 4, [24, 0]) := rfl
theorem rw_0_536 : mm_code 0 536 = some (.pop, 1, 0, 0, []) := rfl
theorem rw_0_537 : mm_code 0 537 = some (.aload_n 2, 1, 0, 0, []) := rfl
theorem rw_0_538 : mm_code 0 538 = some (.aload_n 0, 1, 0, 0, []) := rfl
theorem rw_0_539 : mm_code 0 539 = some (.iload 4, 2, 0, 0, []) := rfl
theorem rw_0_541 : mm_code 0 541 = some (.iconst 1, 1, 1, 0, []) := rfl
theorem rw_0_542 : mm_code 0 542 = some (.iadd, 1, 0, 0, []) := rfl
theorem rw_0_543 : mm_code 0 543 = some (.iaload, 1, 0, 0, []) := rfl
theorem rw_0_544 : mm_code 0 544 = some (.aload_n 0, 1, 0, 0, []) := rfl
theorem rw_0_545 : mm_code 0 545 = some (.iload 4, 2, 0, 0, []) := rfl
theorem rw_0_547 : mm_code 0 547 = some (.iconst 2, 1, 2, 0, []) := rfl
theorem rw_0_548 : mm_code 0 548 = some (.iadd, 1, 0, 0, []) := rfl
theorem rw_0_549 : mm_code 0 549 = some (.iaload, 1, 0, 0, []) := rfl
theorem rw_0_550 : mm_code 0 550 = some (.aload_n 0, 1, 0, 0, []) := rfl
theorem rw_0_551 : mm_code 0 551 = some (.iload 4, 2, 0, 0, []) := rfl
theorem rw_0_553 : mm_code 0 553 = some (.iconst 3, 1, 3, 0, []) := rfl
theorem rw_0_554 : mm_code 0 554 = some (.iadd, 1, 0, 0, []) := rfl
theorem rw_0_555 : mm_code 0 555 = some (.iaload, 1, 0, 0, []) := rfl
theorem rw_0_556 : mm_code 0 556 = some (.invokevirtual 71, 3, 193, 4, [25, 0]) := rfl
theorem rw_0_559 : mm_code 0 559 = some (.pop, 1, 0, 0, []) := rfl
theorem rw_0_560 : mm_code 0 560 = some (.goto 754, 3, 1314, 0, []) := rfl
theorem rw_0_563 : mm_code 0 563 = some (.aload_n 1, 1, 0, 0, []) := rfl
theorem rw_0_564 : mm_code 0 564 = some (.aload_n 0, 1, 0, 0, []) := rfl
theorem rw_0_565 : mm_code 0 565 = some (.iload 4, 2, 0, 0, []) := rfl
theorem rw_0_567 : mm_code 0 567 = some (.iconst 1, 1, 1, 0, []) := rfl
theorem rw_0_568 : mm_code 0 568 = some (.iadd, 1, 0, 0, []) := rfl
theorem rw_0_569 : mm_code 0 569 = some (.iaload, 1, 0, 0, []) := rfl
theorem rw_0_570 : mm_code 0 570 = some (.aload_n 0, 1, 0, 0, []) := rfl
theorem rw_0_571 : mm_code 0 571 = some (.iload 4, 2, 0, 0, []) := rfl
theorem rw_0_573 : mm_code 0 573 = some (.iconst 2, 1, 2, 0, []) := rfl
theorem rw_0_574 : mm_code 0 574 = some (.iadd, 1, 0, 0, []) := rfl
theorem rw_0_575 : mm_code 0 575 = some (.iaload, 1, 0, 0, []) := rfl
theorem rw_0_576 : mm_code 0 576 = some (.invokevirtual 72, 3, 120, 3, [26, 0]) := rfl
theorem rw_0_579 : mm_code 0 579 = some (.pop, 1, 0, 0, []) := rfl
theorem rw_0_580 : mm_code 0 580 = some (.aload_n 2, 1, 0, 0, []) := rfl
theorem rw_0_581 : mm_code 0 581 = some (.aload_n 0, 1, 0, 0, []) := rfl
theorem rw_0_582 : mm_code 0 582 = some (.iload 4, 2, 0, 0, []) := rfl
theorem rw_0_584 : mm_code 0 584 = some (.iconst 1, 1, 1, 0, []) := rfl
theorem rw_0_585 : mm_code 0 585 = some (.iadd, 1, 0, 0, []) := rfl
theorem rw_0_586 : mm_code 0 586 = some (.iaload, 1, 0, 0, []) := rfl
theorem rw_0_587 : mm_code 0 587 = some (.aload_n 0, 1, 0, 0, []) := rfl
theorem rw_0_588 : mm_code 0 588 = some (.iload 4, 2, 0, 0, []) := rfl
theorem rw_0_590 : mm_code 0 590 = some (.iconst 2, 1, 2, 0, []) := rfl
theorem rw_0_591 : mm_code 0 591 = some (.iadd, 1, 0, 0, []) := rfl
theorem rw_0_592 : mm_code 0 592 = some (.iaload, 1, 0, 0, []) := rfl
theorem rw_0_593 : mm_code 0 593 = some (.invokevirtual 75, 3, 194, 3, [27, 0]) := rfl
theorem rw_0_596 : mm_code 0 596 = some (.pop, 1, 0, 0, []) := rfl
theorem rw_0_597 : mm_code 0 597 = some (.goto 717, 3, 1314, 0, []) := rfl
theorem rw_0_600 : mm_code 0 600 = some (.aload_n 1, 1, 0, 0, []) := rfl
theorem rw_0_601 : mm_code 0 601 = some (.aload_n 0, 1, 0, 0, []) := rfl
theorem rw_0_602 : mm_code 0 602 = some (.iload 4, 2, 0, 0, []) := rfl
theorem rw_0_604 : mm_code 0 604 = some (.iconst 1, 1, 1, 0, []) := rfl
theorem rw_0_605 : mm_code 0 605 = some (.iadd, 1, 0, 0, []) := rfl
theorem rw_0_606 : mm_code 0 606 = some (.iaload, 1, 0, 0, []) := rfl
theorem rw_0_607 : mm_code 0 607 = some (.aload_n 0, 1, 0, 0, []) := rfl
theorem rw_0_608 : mm_code 0 608 = some (.iload 4, 2, 0, 0, []) := rfl
theorem rw_0_610 : mm_code 0 610 = some (.iconst 2, 1, 2, 0, []) := rfl
theorem rw_0_611 : mm_code 0 611 = some (.iadd, 1, 0, 0, []) := rfl
theorem rw_0_612 : mm_code 0 612 = some (.iaload, 1, 0, 0, []) := rfl
theorem rw_0_613 : mm_code 0 613 = some (.aload_n 0, 1, 0, 0, []) := rfl
theorem rw_0_614 : mm_code 0 614 = some (.iload 4, 2, 0, 0, []) := rfl
theorem rw_0_616 : mm_code 0 616 = some (.iconst 3, 1, 3, 0, []) := rfl
theorem rw_0_617 : mm_code 0 617 = some (.iadd, 1, 0, 0, []) := rfl
theorem rw_0_618 : mm_code 0 618 = some (.iaload, 1, 0, 0, []) := rfl
theorem rw_0_619 : mm_code 0 619 = some (.ifCond .eq 7, 3, 626, 0, []) := rfl
theorem rw_0_622 : mm_code 0 622 = some (.iconst 1, 1, 1, 0, []) := rfl
theorem rw_0_623 : mm_code 0 623 = some (.goto 4, 3, 627, 0, []) := rfl
theorem rw_0_626 : mm_code 0 626 = some (.iconst 0, 1, 0, 0, []) := rfl
theorem rw_0_627 : mm_code 0 627 = some (.invokevirtual 76, 3, 121, 4, [28, 0]) := rfl
theorem rw_0_630 : mm_code 0 630 = some (.pop, 1, 0, 0, []) := rfl
theorem rw_0_631 : mm_code 0 631 = some (.aload_n 2, 1, 0, 0, []) := rfl
theorem rw_0_632 : mm_code 0 632 = some (.aload_n 0, 1, 0, 0, []) := rfl
theorem rw_0_633 : mm_code 0 633 = some (.iload 4, 2, 0, 0, []) := rfl
theorem rw_0_635 : mm_code 0 635 = some (.iconst 1, 1, 1, 0, []) := rfl
theorem rw_0_636 : mm_code 0 636 = some (.iadd, 1, 0, 0, []) := rfl
theorem rw_0_637 : mm_code 0 637 = some (.iaload, 1, 0, 0, []) := rfl
theorem rw_0_638 : mm_code 0 638 = some (.aload_n 0, 1, 0, 0, []) := rfl
theorem rw_0_639 : mm_code 0 639 = some (.iload 4, 2, 0, 0, []) := rfl
theorem rw_0_641 : mm_code 0 641 = some (.iconst 2, 1, 2, 0, []) := rfl
theorem rw_0_642 : mm_code 0 642 = some (.iadd, 1, 0, 0, []) := rfl
theorem rw_0_643 : mm_code 0 643 = some (.iaload, 1, 0, 0, []) := rfl
theorem rw_0_644 : mm_code 0 644 = some (.aload_n 0, 1, 0, 0, []) := rfl
theorem rw_0_645 : mm_code 0 645 = some (.iload 4, 2, 0, 0, []) := rfl
theorem rw_0_647 : mm_code 0 647 = some (.iconst 3, 1, 3, 0, []) := rfl
theorem rw_0_648 : mm_code 0 648 = some (.iadd, 1, 0, 0, []) := rfl
theorem rw_0_649 : mm_code 0 649 = some (.iaload, 1, 0, 0, []) := rfl
theorem rw_0_650 : mm_code 0 650 = some (.ifCond .eq 7, 3, 657, 0, []) := rfl
theorem rw_0_653 : mm_code 0 653 = some (.iconst 1, 1, 1, 0, []) := rfl
theorem rw_0_654 : mm_code 0 654 = some (.goto 4, 3, 658, 0, []) := rfl
theorem rw_0_657 : mm_code 0 657 = some (.iconst 0, 1, 0, 0, []) := rfl
theorem rw_0_658 : mm_code 0 658 = some (.invokevirtual 80, 3, 195, 4, [29, 0]) := rfl
theorem rw_0_661 : mm_code 0 661 = some (.pop, 1, 0, 0, []) := rfl
theorem rw_0_662 : mm_code 0 662 = some (.goto 652, 3, 1314, 0, []) := rfl
theorem rw_0_665 : mm_code 0 665 = some (.aload_n 1, 1, 0, 0, []) := rfl
theorem rw_0_666 : mm_code 0 666 = some (.aload_n 0, 1, 0, 0, []) := rfl
theorem rw_0_667 : mm_code 0 667 = some (.iload 4, 2, 0, 0, []) := rfl
theorem rw_0_669 : mm_code 0 669 = some (.iconst 1, 1, 1, 0, []) := rfl
theorem rw_0_670 : mm_code 0 670 = some (.iadd, 1, 0, 0, []) := rfl
theorem rw_0_671 : mm_code 0 671 = some (.iaload, 1, 0, 0, []) := rfl
theorem rw_0_672 : mm_code 0 672 = some (.aload_n 0, 1, 0, 0, []) := rfl
theorem rw_0_673 : mm_code 0 673 = some (.iload 4, 2, 0, 0, []) := rfl
theorem rw_0_675 : mm_code 0 675 = some (.iconst 2, 1, 2, 0, []) := rfl
theorem rw_0_676 : mm_code 0 676 = some (.iadd, 1, 0, 0, []) := rfl
theorem rw_0_677 : mm_code 0 677 = some (.iaload, 1, 0, 0, []) := rfl
theorem rw_0_678 : mm_code 0 678 = some (.invokevirtual 81, 3, 122, 3, [30, 0]) := rfl
theorem rw_0_681 : mm_code 0 681 = some (.pop, 1, 0, 0, []) := rfl
theorem rw_0_682 : mm_code 0 682 = some (.aload_n 2, 1, 0, 0, []) := rfl
theorem rw_0_683 : mm_code 0 683 = some (.aload_n 0, 1, 0, 0, []) := rfl
theorem rw_0_684 : mm_code 0 684 = some (.iload 4, 2, 0, 0, []) := rfl
theorem rw_0_686 : mm_code 0 686 = some (.iconst 1, 1, 1, 0, []) := rfl
theorem rw_0_687 : mm_code 0 687 = some (.iadd, 1, 0, 0, []) := rfl
theorem rw_0_688 : mm_code 0 688 = some (.iaload, 1, 0, 0, []) := rfl
theorem rw_0_689 : mm_code 0 689 = some (.aload_n 0, 1, 0, 0, []) := rfl
theorem rw_0_690 : mm_code 0 690 = some (.iload 4, 2, 0, 0, []) := rfl
theorem rw_0_692 : mm_code 0 692 = some (.iconst 2, 1, 2, 0, []) := rfl
theorem rw_0_693 : mm_code 0 693 = some (.iadd, 1, 0, 0, []) := rfl
theorem rw_0_694 : mm_code 0 694 = some (.iaload, 1, 0, 0, []) := rfl
theorem rw_0_695 : mm_code 0 695 = some (.invokevirtual 84, 3, 197, 3, [31, 0]) := rfl
theorem rw_0_698 : mm_code 0 698 = some (.pop, 1, 0, 0, []) := rfl
theorem rw_0_699 : mm_code 0 699 = some (.goto 615, 3, 1314, 0, []) := rfl
theorem rw_0_702 : mm_code 0 702 = some (.aload_n 1, 1, 0, 0, []) := rfl
theorem rw_0_703 : mm_code 0 703 = some (.aload_n 0, 1, 0, 0, []) := rfl
theorem rw_0_704 : mm_code 0 704 = some (.iload 4, 2, 0, 0, []) := rfl
theorem rw_0_706 : mm_code 0 706 = some (.iconst 1, 1, 1, 0, []) := rfl
theorem rw_0_707 : mm_code 0 707 = some (.iadd, 1, 0, 0, []) := rfl
theorem rw_0_708 : mm_code 0 708 = some (.iaload, 1, 0, 0, []) := rfl
theorem rw_0_709 : mm_code 0 709 = some (.invokevirtual 85, 3, 123, 2, [32, 0]) := rfl
theorem rw_0_712 : mm_code 0 712 = some (.pop, 1, 0, 0, []) := rfl
theorem rw_0_713 : mm_code 0 713 = some (.aload_n 2, 1, 0, 0, []) := rfl
theorem rw_0_714 : mm_code 0 714 = some (.aload_n 0, 1, 0, 0, []) := rfl
theorem rw_0_715 : mm_code 0 715 = some (.iload 4, 2, 0, 0, []) := rfl
theorem rw_0_717 : mm_code 0 717 = some (.iconst 1, 1, 1, 0, []) := rfl
theorem rw_0_718 : mm_code 0 718 = some (.iadd, 1, 0, 0, []) := rfl
theorem rw_0_719 : mm_code 0 719 = some (.iaload, 1, 0, 0, []) := rfl
theorem rw_0_720 : mm_code 0 720 = some (.invokevirtual 88, 3, 198, 2, [33, 0]) := rfl
theorem rw_0_723 : mm_code 0 723 = some (.pop, 1, 0, 0, []) := rfl
theorem rw_0_724 : mm_code 0 724 = some (.goto 590, 3, 1314, 0, []) := rfl
theorem rw_0_727 : mm_code 0 727 = some (.aload_n 1, 1, 0, 0, []) := rfl
theorem rw_0_728 : mm_code 0 728 = some (.aload_n 0, 1, 0, 0, []) := rfl
theorem rw_0_729 : mm_code 0 729 = some (.iload 4, 2, 0, 0, []) := rfl
theorem rw_0_731 : mm_code 0 731 = some (.iconst 1, 1, 1, 0, []) := rfl
theorem rw_0_732 : mm_code 0 732 = some (.iadd, 1, 0, 0, []) := rfl
theorem rw_0_733 : mm_code 0 733 = some (.iaload, 1, 0, 0, []) := rfl
theorem rw_0_734 : mm_code 0 734 = some (.aload_n 0, 1, 0, 0, []) := rfl
theorem rw_0_735 : mm_code 0 735 = some (.iload 4, 2, 0, 0, []) := rfl
theorem rw_0_737 : mm_code 0 737 = some (.iconst 2, 1, 2, 0, []) := rfl
theorem rw_0_738 : mm_code 0 738 = some (.iadd, 1, 0, 0, []) := rfl
theorem rw_0_739 : mm_code 0 739 = some (.iaload, 1, 0, 0, []) := rfl
theorem rw_0_740 : mm_code 0 740 = some (.invokevirtual 89, 3, 124, 3, [34, 0]) := rfl
theorem rw_0_743 : mm_code 0 743 = some (.pop2, 1, 0, 0, []) := rfl
theorem rw_0_744 : mm_code 0 744 = some (.aload_n 2, 1, 0, 0, []) := rfl
theorem rw_0_745 : mm_code 0 745 = some (.aload_n 0, 1, 0, 0, []) := rfl
theorem rw_0_746 : mm_code 0 746 = some (.iload 4, 2, 0, 0, []) := rfl
theorem rw_0_748 : mm_code 0 748 = some (.iconst 1, 1, 1, 0, []) := rfl
theorem rw_0_749 : mm_code 0 749 = some (.iadd, 1, 0, 0, []) := rfl
theorem rw_0_750 : mm_code 0 750 = some (.iaload, 1, 0, 0, []) := rfl
theorem rw_0_751 : mm_code 0 751 = some (.aload_n 0, 1, 0, 0, []) := rfl
theorem rw_0_752 : mm_code 0 752 = some (.iload 4, 2, 0, 0, []) := rfl
theorem rw_0_754 : mm_code 0 754 = some (.iconst 2, 1, 2, 0, []) := rfl
theorem rw_0_755 : mm_code 0 755 = some (.iadd, 1, 0, 0, []) := rfl
theorem rw_0_756 : mm_code 0 756 = some (.iaload, 1, 0, 0, []) := rfl
theorem rw_0_757 : mm_code 0 757 = some (.invokevirtual 92, 3, 199, 3, [35, 0]) := rfl
theorem rw_0_760 : mm_code 0 760 = some (.pop2, 1, 0, 0, []) := rfl
theorem rw_0_761 : mm_code 0 761 = some (.goto 553, 3, 1314, 0, []) := rfl
theorem rw_0_764 : mm_code 0 764 = some (.aload_n 1, 1, 0, 0, []) := rfl
theorem rw_0_765 : mm_code 0 765 = some (.aload_n 0, 1, 0, 0, []) := rfl
theorem rw_0_766 : mm_code 0 766 = some (.iload 4, 2, 0, 0, []) := rfl
theorem rw_0_768 : mm_code 0 768 = some (.iconst 1, 1, 1, 0, []) := rfl
theorem rw_0_769 : mm_code 0 769 = some (.iadd, 1, 0, 0, []) := rfl
theorem rw_0_770 : mm_code 0 770 = some (.iaload, 1, 0, 0, []) := rfl
theorem rw_0_771 : mm_code 0 771 = some (.aload_n 0, 1, 0, 0, []) := rfl
theorem rw_0_772 : mm_code 0 772 = some (.iload 4, 2, 0, 0, []) := rfl
theorem rw_0_774 : mm_code 0 774 = some (.iconst 2, 1, 2, 0, []) := rfl
theorem rw_0_775 : mm_code 0 775 = some (.iadd, 1, 0, 0, []) := rfl
theorem rw_0_776 : mm_code 0 776 = some (.iaload, 1, 0, 0, []) := rfl
theorem rw_0_777 : mm_code 0 777 = some (.aload_n 0, 1, 0, 0, []) := rfl
theorem rw_0_778 : mm_code 0 778 = some (.iload 4, 2, 0, 0, []) := rfl
theorem rw_0_780 : mm_code 0 780 = some (.iconst 3, 1, 3, 0, []) := rfl
theorem rw_0_781 : mm_code 0 781 = some (.iadd, 1, 0, 0, []) := rfl
theorem rw_0_782 : mm_code 0 782 = some (.iaload, 1, 0, 0, []) := rfl
theorem rw_0_783 : mm_code 0 783 = some (.invokevirtual 93, 3, 125, 4, [36, 0]) := rfl
theorem rw_0_786 : mm_code 0 786 = some (.pop, 1, 0, 0, []) := rfl
theorem rw_0_787 : mm_code 0 787 = some (.aload_n 2, 1, 0, 0, []) := rfl
theorem rw_0_788 : mm_code 0 788 = some (.aload_n 0, 1, 0, 0, []) := rfl
theorem rw_0_789 : mm_code 0 789 = some (.iload 4, 2, 0, 0, []) := rfl
theorem rw_0_791 : mm_code 0 791 = some (.iconst 1, 1, 1, 0, []) := rfl
theorem rw_0_792 : mm_code 0 792 = some (.iadd, 1, 0, 0, []) := rfl
theorem rw_0_793 : mm_code 0 793 = some (.iaload, 1, 0, 0, []) := rfl
theorem rw_0_794 : mm_code 0 794 = some (.aload_n 0, 1, 0, 0, []) := rfl
theorem rw_0_795 : mm_code 0 795 = some (.iload 4, 2, 0, 0, []) := rfl
theorem rw_0_797 : mm_code 0 797 = some (.iconst 2, 1, 2, 0, []) := rfl
theorem rw_0_798 : mm_code 0 798 = some (.iadd, 1, 0, 0, []) := rfl
theorem rw_0_799 : mm_code 0 799 = some (.iaload, 1, 0, 0, []) := rfl
theorem rw_0_800 : mm_code 0 800 = some (.aload_n 0, 1, 0, 0, []) := rfl
theorem rw_0_801 : mm_code 0 801 = some (.iload 4, 2, 0, 0, []) := rfl
theorem rw_0_803 : mm_code 0 803 = some (.iconst 3, 1, 3, 0, []) := rfl
theorem rw_0_804 : mm_code 0 804 = some (.iadd, 1, 0, 0, []) := rfl
theorem rw_0_805 : mm_code 0 805 = some (.iaload, 1, 0, 0, []) := rfl
theorem rw_0_806 : mm_code 0 806 = some (.invokevirtual 96, 3, 201, 4, [37, 0]) := rfl
theorem rw_0_809 : mm_code 0 809 = some (.pop, 1, 0, 0, []) := rfl
theorem rw_0_810 : mm_code 0 810 = some (.goto 504, 3, 1314, 0, []) := rfl
theorem rw_0_813 : mm_code 0 813 = some (.aload_n 1, 1, 0, 0, []) := rfl
theorem rw_0_814 : mm_code 0 814 = some (.aload_n 0, 1, 0, 0, []) := rfl
theorem rw_0_815 : mm_code 0 815 = some (.iload 4, 2, 0, 0, []) := rfl
theorem rw_0_817 : mm_code 0 817 = some (.iconst 1, 1, 1, 0, []) := rfl
theorem rw_0_818 : mm_code 0 818 = some (.iadd, 1, 0, 0, []) := rfl
theorem rw_0_819 : mm_code 0 819 = some (.iaload, 1, 0, 0, []) := rfl
theorem rw_0_820 : mm_code 0 820 = some (.invokevirtual 97, 3, 126, 2, [38, 0]) := rfl
theorem rw_0_823 : mm_code 0 823 = some (.pop, 1, 0, 0, []) := rfl
theorem rw_0_824 : mm_code 0 824 = some (.aload_n 2, 1, 0, 0, []) := rfl
theorem rw_0_825 : mm_code 0 825 = some (.aload_n 0, 1, 0, 0, []) := rfl
theorem rw_0_826 : mm_code 0 826 = some (.iload 4, 2, 0, 0, []) := rfl
theorem rw_0_828 : mm_code 0 828 = some (.iconst 1, 1, 1, 0, []) := rfl
theorem rw_0_829 : mm_code 0 829 = some (.iadd, 1, 0, 0, []) := rfl
theorem rw_0_830 : mm_code 0 830 = some (.iaload, 1, 0, 0, []) := rfl
theorem rw_0_831 : mm_code 0 831 = some (.invokevirtual 101, 3, 202, 2, [39, 0]) := rfl
theorem rw_0_834 : mm_code 0 834 = some (.pop, 1, 0, 0, []) := rfl
theorem rw_0_835 : mm_code 0 835 = some (.goto 479, 3, 1314, 0, []) := rfl
theorem rw_0_838 : mm_code 0 838 = some (.aload_n 1, 1, 0, 0, []) := rfl
theorem rw_0_839 : mm_code 0 839 = some (.invokevirtual 102, 3, 127, 1, [40, 0]) := rfl
theorem rw_0_842 : mm_code 0 842 = some (.pop, 1, 0, 0, []) := rfl
theorem rw_0_843 : mm_code 0 843 = some (.aload_n 2, 1, 0, 0, []) := rfl
theorem rw_0_844 : mm_code 0 844 = some (.invokevirtual 105, 3, 203, 1, [41, 0]) := rfl
theorem rw_0_847 : mm_code 0 847 = some (.pop, 1, 0, 0, []) := rfl
theorem rw_0_848 : mm_code 0 848 = some (.goto 466, 3, 1314, 0, []) := rfl
theorem rw_0_851 : mm_code 0 851 = some (.aload_n 1, 1, 0, 0, []) := rfl
theorem rw_0_852 : mm_code 0 852 = some (.aload_n 0, 1, 0, 0, []) := rfl
theorem rw_0_853 : mm_code 0 853 = some (.iload 4, 2, 0, 0, []) := rfl
theorem rw_0_855 : mm_code 0 855 = some (.iconst 1, 1, 1, 0, []) := rfl
theorem rw_0_856 : mm_code 0 856 = some (.iadd, 1, 0, 0, []) := rfl
theorem rw_0_857 : mm_code 0 857 = some (.iaload, 1, 0, 0, []) := rfl
theorem rw_0_858 : mm_code 0 858 = some (.aload_n 0, 1, 0, 0, []) := rfl
theorem rw_0_859 : mm_code 0 859 = some (.iload 4, 2, 0, 0, []) := rfl
theorem rw_0_861 : mm_code 0 861 = some (.iconst 2, 1, 2, 0, []) := rfl
theorem rw_0_862 : mm_code 0 862 = some (.iadd, 1, 0, 0, []) := rfl
theorem rw_0_863 : mm_code 0 863 = some (.iaload, 1, 0, 0, []) := rfl
theorem rw_0_864 : mm_code 0 864 = some (.invokevirtual 106, 3, 128, 3, [42, 0]) := rfl
theorem rw_0_867 : mm_code 0 867 = some (.pop, 1, 0, 0, []) := rfl
theorem rw_0_868 : mm_code 0 868 = some (.aload_n 2, 1, 0, 0, []) := rfl
theorem rw_0_869 : mm_code 0 869 = some (.aload_n 0, 1, 0, 0, []) := rfl
theorem rw_0_870 : mm_code 0 870 = some (.iload 4, 2, 0, 0, []) := rfl
theorem rw_0_872 : mm_code 0 872 = some (.iconst 1, 1, 1, 0, []) := rfl
theorem rw_0_873 : mm_code 0 873 = some (.iadd, 1, 0, 0, []) := rfl
theorem rw_0_874 : mm_code 0 874 = some (.iaload, 1, 0, 0, []) := rfl
theorem rw_0_875 : mm_code 0 875 = some (.aload_n 0, 1, 0, 0, []) := rfl
theorem rw_0_876 : mm_code 0 876 = some (.iload 4, 2, 0, 0, []) := rfl
theorem rw_0_878 : mm_code 0 878 = some (.iconst 2, 1, 2, 0, []) := rfl
theorem rw_0_879 : mm_code 0 879 = some (.iadd, 1, 0, 0, []) := rfl
theorem rw_0_880 : mm_code 0 880 = some (.iaload, 1, 0, 0, []) := rfl
theorem rw_0_881 : mm_code 0 881 = some (.invokevirtual 109, 3, 205, 3, [43, 0]) := rfl
theorem rw_0_884 : mm_code 0 884 = some (.pop, 1, 0, 0, []) := rfl
theorem rw_0_885 : mm_code 0 885 = some (.goto 429, 3, 1314, 0, []) := rfl
theorem rw_0_888 : mm_code 0 888 = some (.aload_n 1, 1, 0, 0, []) := rfl
theorem rw_0_889 : mm_code 0 889 = some (.aload_n 0, 1, 0, 0, []) := rfl
theorem rw_0_890 : mm_code 0 890 = some (.iload 4, 2, 0, 0, []) := rfl
theorem rw_0_892 : mm_code 0 892 = some (.iconst 1, 1, 1, 0, []) := rfl
theorem rw_0_893 : mm_code 0 893 = some (.iadd, 1, 0, 0, []) := rfl
theorem rw_0_894 : mm_code 0 894 = some (.iaload, 1, 0, 0, []) := rfl
theorem rw_0_895 : mm_code 0 895 = some (.aload_n 0, 1, 0, 0, []) := rfl
theorem rw_0_896 : mm_code 0 896 = some (.iload 4, 2, 0, 0, []) := rfl
theorem rw_0_898 : mm_code 0 898 = some (.iconst 2, 1, 2, 0, []) := rfl
theorem rw_0_899 : mm_code 0 899 = some (.iadd, 1, 0, 0, []) := rfl
theorem rw_0_900 : mm_code 0 900 = some (.iaload, 1, 0, 0, []) := rfl
theorem rw_0_901 : mm_code 0 901 = some (.i2l, 1, 0, 0, []) := rfl
theorem rw_0_902 : mm_code 0 902 = some (.bipush 32, 2, 32, 0, []) := rfl
theorem rw_0_904 : mm_code 0 904 = some (.lshl, 1, 0, 0, []) := rfl
theorem rw_0_905 : mm_code 0 905 = some (.aload_n 0, 1, 0, 0, []) := rfl
theorem rw_0_906 : mm_code 0 906 = some (.iload 4, 2, 0, 0, []) := rfl
theorem rw_0_908 : mm_code 0 908 = some (.iconst 3, 1, 3, 0, []) := rfl
theorem rw_0_909 : mm_code 0 909 = some (.iadd, 1, 0, 0, []) := rfl
theorem rw_0_910 : mm_code 0 910 = some (.iaload, 1, 0, 0, []) := rfl
theorem rw_0_911 : mm_code 0 911 = some (.i2l, 1, 0, 0, []) := rfl
theorem rw_0_912 : mm_code 0 912 = some (.ldc2_w 110, 3, 4294967295, 0, [44]) := rfl
theorem rw_0_915 : mm_code 0 915 = some (.land, 1, 0, 0, []) := rfl
theorem rw_0_916 : mm_code 0 916 = some (.lor, 1, 0, 0, []) := rfl
theorem rw_0_917 : mm_code 0 917 = some (.invokevirtual 112, 3, 129, 3, [45, 0]) := rfl
theorem rw_0_920 : mm_code 0 920 = some (.pop, 1, 0, 0, []) := rfl
theorem rw_0_921 : mm_code 0 921 = some (.aload_n 2, 1, 0, 0, []) := rfl
theorem rw_0_922 : mm_code 0 922 = some (.aload_n 0, 1, 0, 0, []) := rfl
theorem rw_0_923 : mm_code 0 923 = some (.iload 4, 2, 0, 0, []) := rfl
theorem rw_0_925 : mm_code 0 925 = some (.iconst 1, 1, 1, 0, []) := rfl
theorem rw_0_926 : mm_code 0 926 = some (.iadd, 1, 0, 0, []) := rfl
theorem rw_0_927 : mm_code 0 927 = some (.iaload, 1, 0, 0, []) := rfl
theorem rw_0_928 : mm_code 0 928 = some (.aload_n 0, 1, 0, 0, []) := rfl
theorem rw_0_929 : mm_code 0 929 = some (.iload 4, 2, 0, 0, []) := rfl
theorem rw_0_931 : mm_code 0 931 = some (.iconst 2, 1, 2, 0, []) := rfl
theorem rw_0_932 : mm_code 0 932 = some (.iadd, 1, 0, 0, []) := rfl
theorem rw_0_933 : mm_code 0 933 = some (.iaload, 1, 0, 0, []) := rfl
theorem rw_0_934 : mm_code 0 934 = some (.i2l, 1, 0, 0, []) := rfl
theorem rw_0_935 : mm_code 0 935 = some (.bipush 32, 2, 32, 0, []) := rfl
theorem rw_0_937 : mm_code 0 937 = some (.lshl, 1, 0, 0, []) := rfl
theorem rw_0_938 : mm_code 0 938 = some (.aload_n 0, 1, 0, 0, []) := rfl
theorem rw_0_939 : mm_code 0 939 = some (.iload 4, 2, 0, 0, []) := rfl
theorem rw_0_941 : mm_code 0 941 = some (.iconst 3, 1, 3, 0, []) := rfl
theorem rw_0_942 : mm_code 0 942 = some (.iadd, 1, 0, 0, []) := rfl
theorem rw_0_943 : mm_code 0 943 = some (.iaload, 1, 0, 0, []) := rfl
theorem rw_0_944 : mm_code 0 944 = some (.i2l, 1, 0, 0, []) := rfl
theorem rw_0_945 : mm_code 0 945 = some (.ldc2_w 110, 3, 4294967295, 0, [44]) := rfl
theorem rw_0_948 : mm_code 0 948 = some (.land, 1, 0, 0, []) := rfl
theorem rw_0_949 : mm_code 0 949 = some (.lor, 1, 0, 0, []) := rfl
theorem rw_0_950 : mm_code 0 950 = some (.invokevirtual 116, 3, 207, 3, [46, 0]) := rfl
theorem rw_0_953 : mm_code 0 953 = some (.pop, 1, 0, 0, []) := rfl
theorem rw_0_954 : mm_code 0 954 = some (.goto 360, 3, 1314, 0, []) := rfl
theorem rw_0_957 : mm_code 0 957 = some (.aload_n 1, 1, 0, 0, []) := rfl
theorem rw_0_958 : mm_code 0 958 = some (.invokevirtual 117, 3, 130, 1, [47, 0]) := rfl
theorem rw_0_961 : mm_code 0 961 = some (.pop, 1, 0, 0, []) := rfl
theorem rw_0_962 : mm_code 0 962 = some (.aload_n 2, 1, 0, 0, []) := rfl
theorem rw_0_963 : mm_code 0 963 = some (.invokevirtual 120, 3, 208, 1, [48, 0]) := rfl
theorem rw_0_966 : mm_code 0 966 = some (.pop, 1, 0, 0, []) := rfl
theorem rw_0_967 : mm_code 0 967 = some (.goto 347, 3, 1314, 0, []) := rfl
theorem rw_0_970 : mm_code 0 970 = some (.aload_n 1, 1, 0, 0, []) := rfl
theorem rw_0_971 : mm_code 0 971 = some (.aload_n 0, 1, 0, 0, []) := rfl
theorem rw_0_972 : mm_code 0 972 = some (.iload 4, 2, 0, 0, []) := rfl
theorem rw_0_974 : mm_code 0 974 = some (.iconst 1, 1, 1, 0, []) := rfl
theorem rw_0_975 : mm_code 0 975 = some (.iadd, 1, 0, 0, []) := rfl
theorem rw_0_976 : mm_code 0 976 = some (.iaload, 1, 0, 0, []) := rfl
theorem rw_0_977 : mm_code 0 977 = some (.aload_n 0, 1, 0, 0, []) := rfl
theorem rw_0_978 : mm_code 0 978 = some (.iload 4, 2, 0, 0, []) := rfl
theorem rw_0_980 : mm_code 0 980 = some (.iconst 2, 1, 2, 0, []) := rfl
theorem rw_0_981 : mm_code 0 981 = some (.iadd, 1, 0, 0, []) := rfl
theorem rw_0_982 : mm_code 0 982 = some (.iaload, 1, 0, 0, []) := rfl
theorem rw_0_983 : mm_code 0 983 = some (.invokevirtual 121, 3, 131, 3, [49, 0]) := rfl
theorem rw_0_986 : mm_code 0 986 = some (.pop, 1, 0, 0, []) := rfl
theorem rw_0_987 : mm_code 0 987 = some (.aload_n 2, 1, 0, 0, []) := rfl
theorem rw_0_988 : mm_code 0 988 = some (.aload_n 0, 1, 0, 0, []) := rfl
theorem rw_0_989 : mm_code 0 989 = some (.iload 4, 2, 0, 0, []) := rfl
theorem rw_0_991 : mm_code 0 991 = some (.iconst 1, 1, 1, 0, []) := rfl
theorem rw_0_992 : mm_code 0 992 = some (.iadd, 1, 0, 0, []) := rfl
theorem rw_0_993 : mm_code 0 993 = some (.iaload, 1, 0, 0, []) := rfl
theorem rw_0_994 : mm_code 0 994 = some (.aload_n 0, 1, 0, 0, []) := rfl
theorem rw_0_995 : mm_code 0 995 = some (.iload 4, 2, 0, 0, []) := rfl
theorem rw_0_997 : mm_code 0 997 = some (.iconst 2, 1, 2, 0, []) := rfl
theorem rw_0_998 : mm_code 0 998 = some (.iadd, 1, 0, 0, []) := rfl
theorem rw_0_999 : mm_code 0 999 = some (.iaload, 1, 0, 0, []) := rfl
theorem rw_0_1000 : mm_code 0 1000 = some (.invokevirtual 124, 3, 228, 3, [50, 0]) := rfl
theorem rw_0_1003 : mm_code 0 1003 = some (.pop, 1, 0, 0, []) := rfl
theorem rw_0_1004 : mm_code 0 1004 = some (.goto 310, 3, 1314, 0, []) := rfl
theorem rw_0_1007 : mm_code 0 1007 = some (.aload_n 1, 1, 0, 0, []) := rfl
theorem rw_0_1008 : mm_code 0 1008 = some (.aload_n 0, 1, 0, 0, []) := rfl
theorem rw_0_1009 : mm_code 0 1009 = some (.iload 4, 2, 0, 0, []) := rfl
theorem rw_0_1011 : mm_code 0 1011 = some (.iconst 1, 1, 1, 0, []) := rfl
theorem rw_0_1012 : mm_code 0 1012 = some (.iadd, 1, 0, 0, []) := rfl
theorem rw_0_1013 : mm_code 0 1013 = some (.iaload, 1, 0, 0, []) := rfl
theorem rw_0_1014 : mm_code 0 1014 = some (.aload_n 0, 1, 0, 0, []) := rfl
theorem rw_0_1015 : mm_code 0 1015 = some (.iload 4, 2, 0, 0, []) := rfl
theorem rw_0_1017 : mm_code 0 1017 = some (.iconst 2, 1, 2, 0, []) := rfl
theorem rw_0_1018 : mm_code 0 1018 = some (.iadd, 1, 0, 0, []) := rfl
theorem rw_0_1019 : mm_code 0 1019 = some (.iaload, 1, 0, 0, []) := rfl
theorem rw_0_1020 : mm_code 0 1020 = some (.aload_n 0, 1, 0, 0, []) := rfl
theorem rw_0_1021 : mm_code 0 1021 = some (.iload 4, 2, 0, 0, []) := rfl
theorem rw_0_1023 : mm_code 0 1023 = some (.iconst 3, 1, 3, 0, []) := rfl
theorem rw_0_1024 : mm_code 0 1024 = some (.iadd, 1, 0, 0, []) := rfl
theorem rw_0_1025 : mm_code 0 1025 = some (.iaload, 1, 0, 0, []) := rfl
theorem rw_0_1026 : mm_code 0 1026 = some (.invokevirtual 125, 3, 132, 4, [51, 0]) := rfl
theorem rw_0_1029 : mm_code 0 1029 = some (.pop2, 1, 0, 0, []) := rfl
theorem rw_0_1030 : mm_code 0 1030 = some (.aload_n 2, 1, 0, 0, []) := rfl
theorem rw_0_1031 : mm_code 0 1031 = some (.aload_n 0, 1, 0, 0, []) := rfl
theorem rw_0_1032 : mm_code 0 1032 = some (.iload 4, 2, 0, 0, []) := rfl
theorem rw_0_1034 : mm_code 0 1034 = some (.iconst 1, 1, 1, 0, []) := rfl
theorem rw_0_1035 : mm_code 0 1035 = some (.iadd, 1, 0, 0, []) := rfl
theorem rw_0_1036 : mm_code 0 1036 = some (.iaload, 1, 0, 0, []) := rfl
theorem rw_0_1037 : mm_code 0 1037 = some (.aload_n 0, 1, 0, 0, []) := rfl
theorem rw_0_1038 : mm_code 0 1038 = some (.iload 4, 2, 0, 0, []) := rfl
theorem rw_0_1040 : mm_code 0 1040 = some (.iconst 2, 1, 2, 0, []) := rfl
theorem rw_0_1041 : mm_code 0 1041 = some (.iadd, 1, 0, 0, []) := rfl
theorem rw_0_1042 : mm_code 0 1042 = some (.iaload, 1, 0, 0, []) := rfl
theorem rw_0_1043 : mm_code 0 1043 = some (.aload_n 0, 1, 0, 0, []) := rfl
theorem rw_0_1044 : mm_code 0 1044 = some (.iload 4, 2, 0, 0, []) := rfl
theorem rw_0_1046 : mm_code 0 1046 = some (.iconst 3, 1, 3, 0, []) := rfl
theorem rw_0_1047 : mm_code 0 1047 = some (.iadd, 1, 0, 0, []) := rfl
theorem rw_0_1048 : mm_code 0 1048 = some (.iaload, 1, 0, 0, []) := rfl
theorem rw_0_1049 : mm_code 0 1049 = some (.invokevirtual 129, 3, 232, 4, [52, 0]) := rfl
theorem rw_0_1052 : mm_code 0 1052 = some (.pop2, 1, 0, 0, []) := rfl
theorem rw_0_1053 : mm_code 0 1053 = some (.goto 261, 3, 1314, 0, []) := rfl
theorem rw_0_1056 : mm_code 0 1056 = some (.aload_n 1, 1, 0, 0, []) := rfl
theorem rw_0_1057 : mm_code 0 1057 = some (.aload_n 0, 1, 0, 0, []) := rfl
theorem rw_0_1058 : mm_code 0 1058 = some (.iload 4, 2, 0, 0, []) := rfl
theorem rw_0_1060 : mm_code 0 1060 = some (.iconst 1, 1, 1, 0, []) := rfl
theorem rw_0_1061 : mm_code 0 1061 = some (.iadd, 1, 0, 0, []) := rfl
theorem rw_0_1062 : mm_code 0 1062 = some (.iaload, 1, 0, 0, []) := rfl
theorem rw_0_1063 : mm_code 0 1063 = some (.aload_n 0, 1, 0, 0, []) := rfl
theorem rw_0_1064 : mm_code 0 1064 = some (.iload 4, 2, 0, 0, []) := rfl
theorem rw_0_1066 : mm_code 0 1066 = some (.iconst 2, 1, 2, 0, []) := rfl
theorem rw_0_1067 : mm_code 0 1067 = some (.iadd, 1, 0, 0, []) := rfl
theorem rw_0_1068 : mm_code 0 1068 = some (.iaload, 1, 0, 0, []) := rfl
theorem rw_0_1069 : mm_code 0 1069 = some (.invokevirtual 130, 3, 133, 3, [53, 0]) := rfl
theorem rw_0_1072 : mm_code 0 1072 = some (.pop, 1, 0, 0, []) := rfl
theorem rw_0_1073 : mm_code 0 1073 = some (.aload_n 2, 1, 0, 0, []) := rfl
theorem rw_0_1074 : mm_code 0 1074 = some (.aload_n 0, 1, 0, 0, []) := rfl
theorem rw_0_1075 : mm_code 0 1075 = some (.iload 4, 2, 0, 0, []) := rfl
theorem rw_0_1077 : mm_code 0 1077 = some (.iconst 1, 1, 1, 0, []) := rfl
theorem rw_0_1078 : mm_code 0 1078 = some (.iadd, 1, 0, 0, []) := rfl
theorem rw_0_1079 : mm_code 0 1079 = some (.iaload, 1, 0, 0, []) := rfl
theorem rw_0_1080 : mm_code 0 1080 = some (.aload_n 0, 1, 0, 0, []) := rfl
theorem rw_0_1081 : mm_code 0 1081 = some (.iload 4, 2, 0, 0, []) := rfl
theorem rw_0_1083 : mm_code 0 1083 = some (.iconst 2, 1, 2, 0, []) := rfl
theorem rw_0_1084 : mm_code 0 1084 = some (.iadd, 1, 0, 0, []) := rfl
theorem rw_0_1085 : mm_code 0 1085 = some (.iaload, 1, 0, 0, []) := rfl
theorem rw_0_1086 : mm_code 0 1086 = some (.invokevirtual 133, 3, 234, 3, [54, 0]) := rfl
theorem rw_0_1089 : mm_code 0 1089 = some (.pop, 1, 0, 0, []) := rfl
theorem rw_0_1090 : mm_code 0 1090 = some (.goto 224, 3, 1314, 0, []) := rfl
theorem rw_0_1093 : mm_code 0 1093 = some (.aload_n 1, 1, 0, 0, []) := rfl
theorem rw_0_1094 : mm_code 0 1094 = some (.aload_n 0, 1, 0, 0, []) := rfl
theorem rw_0_1095 : mm_code 0 1095 = some (.iload 4, 2, 0, 0, []) := rfl
theorem rw_0_1097 : mm_code 0 1097 = some (.iconst 1, 1, 1, 0, []) := rfl
theorem rw_0_1098 : mm_code 0 1098 = some (.iadd, 1, 0, 0, []) := rfl
theorem rw_0_1099 : mm_code 0 1099 = some (.iaload, 1, 0, 0, []) := rfl
theorem rw_0_1100 : mm_code 0 1100 = some (.aload_n 0, 1, 0, 0, []) := rfl
theorem rw_0_1101 : mm_code 0 1101 = some (.iload 4, 2, 0, 0, []) := rfl
theorem rw_0_1103 : mm_code 0 1103 = some (.iconst 2, 1, 2, 0, []) := rfl
theorem rw_0_1104 : mm_code 0 1104 = some (.iadd, 1, 0, 0, []) := rfl
theorem rw_0_1105 : mm_code 0 1105 = some (.iaload, 1, 0, 0, []) := rfl
theorem rw_0_1106 : mm_code 0 1106 = some (.invokevirtual 134, 3, 134, 3, [55, 0]) := rfl
theorem rw_0_1109 : mm_code 0 1109 = some (.pop, 1, 0, 0, []) := rfl
theorem rw_0_1110 : mm_code 0 1110 = some (.aload_n 2, 1, 0, 0, []) := rfl
theorem rw_0_1111 : mm_code 0 1111 = some (.aload_n 0, 1, 0, 0, []) := rfl
theorem rw_0_1112 : mm_code 0 1112 = some (.iload 4, 2, 0, 0, []) := rfl
theorem rw_0_1114 : mm_code 0 1114 = some (.iconst 1, 1, 1, 0, []) := rfl
theorem rw_0_1115 : mm_code 0 1115 = some (.iadd, 1, 0, 0, []) := rfl
theorem rw_0_1116 : mm_code 0 1116 = some (.iaload, 1, 0, 0, []) := rfl
theorem rw_0_1117 : mm_code 0 1117 = some (.aload_n 0, 1, 0, 0, []) := rfl
theorem rw_0_1118 : mm_code 0 1118 = some (.iload 4, 2, 0, 0, []) := rfl
theorem rw_0_1120 : mm_code 0 1120 = some (.iconst 2, 1, 2, 0, []) := rfl
theorem rw_0_1121 : mm_code 0 1121 = some (.iadd, 1, 0, 0, []) := rfl
theorem rw_0_1122 : mm_code 0 1122 = some (.iaload, 1, 0, 0, []) := rfl
theorem rw_0_1123 : mm_code 0 1123 = some (.invokevirtual 137, 3, 236, 3, [56, 0]) := rfl
theorem rw_0_1126 : mm_code 0 1126 = some (.pop, 1, 0, 0, []) := rfl
theorem rw_0_1127 : mm_code 0 1127 = some (.goto 187, 3, 1314, 0, []) := rfl
theorem rw_0_1130 : mm_code 0 1130 = some (.aload_n 1, 1, 0, 0, []) := rfl
theorem rw_0_1131 : mm_code 0 1131 = some (.aload_n 0, 1, 0, 0, []) := rfl
theorem rw_0_1132 : mm_code 0 1132 = some (.iload 4, 2, 0, 0, []) := rfl
theorem rw_0_1134 : mm_code 0 1134 = some (.iconst 1, 1, 1, 0, []) := rfl
theorem rw_0_1135 : mm_code 0 1135 = some (.iadd, 1, 0, 0, []) := rfl
theorem rw_0_1136 : mm_code 0 1136 = some (.iaload, 1, 0, 0, []) := rfl
theorem rw_0_1137 : mm_code 0 1137 = some (.aload_n 0, 1, 0, 0, []) := rfl
theorem rw_0_1138 : mm_code 0 1138 = some (.iload 4, 2, 0, 0, []) := rfl
theorem rw_0_1140 : mm_code 0 1140 = some (.iconst 2, 1, 2, 0, []) := rfl
theorem rw_0_1141 : mm_code 0 1141 = some (.iadd, 1, 0, 0, []) := rfl
theorem rw_0_1142 : mm_code 0 1142 = some (.iaload, 1, 0, 0, []) := rfl
theorem rw_0_1143 : mm_code 0 1143 = some (.aload_n 0, 1, 0, 0, []) := rfl
theorem rw_0_1144 : mm_code 0 1144 = some (.iload 4, 2, 0, 0, []) := rfl
theorem rw_0_1146 : mm_code 0 1146 = some (.iconst 3, 1, 3, 0, []) := rfl
theorem rw_0_1147 : mm_code 0 1147 = some (.iadd, 1, 0, 0, []) := rfl
theorem rw_0_1148 : mm_code 0 1148 = some (.iaload, 1, 0, 0, []) := rfl
theorem rw_0_1149 : mm_code 0 1149 = some (.aload_n 0, 1, 0, 0, []) := rfl
theorem rw_0_1150 : mm_code 0 1150 = some (.iload 4, 2, 0, 0, []) := rfl
theorem rw_0_1152 : mm_code 0 1152 = some (.iconst 4, 1, 4, 0, []) := rfl
theorem rw_0_1153 : mm_code 0 1153 = some (.iadd, 1, 0, 0, []) := rfl
theorem rw_0_1154 : mm_code 0 1154 = some (.iaload, 1, 0, 0, []) := rfl
theorem rw_0_1155 : mm_code 0 1155 = some (.aload_n 0, 1, 0, 0, []) := rfl
theorem rw_0_1156 : mm_code 0 1156 = some (.iload 4, 2, 0, 0, []) := rfl
theorem rw_0_1158 : mm_code 0 1158 = some (.iconst 5, 1, 5, 0, []) := rfl
theorem rw_0_1159 : mm_code 0 1159 = some (.iadd, 1, 0, 0, []) := rfl
theorem rw_0_1160 : mm_code 0 1160 = some (.iaload, 1, 0, 0, []) := rfl
theorem rw_0_1161 : mm_code 0 1161 = some (.invokevirtual 138, 3, 135, 6, [57, 0]) := rfl
theorem rw_0_1164 : mm_code 0 1164 = some (.pop, 1, 0, 0, []) := rfl
theorem rw_0_1165 : mm_code 0 1165 = some (.aload_n 2, 1, 0, 0, []) := rfl
theorem rw_0_1166 : mm_code 0 1166 = some (.aload_n 0, 1, 0, 0, []) := rfl
theorem rw_0_1167 : mm_code 0 1167 = some (.iload 4, 2, 0, 0, []) := rfl
theorem rw_0_1169 : mm_code 0 1169 = some (.iconst 1, 1, 1, 0, []) := rfl
theorem rw_0_1170 : mm_code 0 1170 = some (.iadd, 1, 0, 0, []) := rfl
theorem rw_0_1171 : mm_code 0 1171 = some (.iaload, 1, 0, 0, []) := rfl
theorem rw_0_1172 : mm_code 0 1172 = some (.aload_n 0, 1, 0, 0, []) := rfl
theorem rw_0_1173 : mm_code 0 1173 = some (.iload 4, 2, 0, 0, []) := rfl
theorem rw_0_1175 : mm_code 0 1175 = some (.iconst 2, 1, 2, 0, []) := rfl
theorem rw_0_1176 : mm_code 0 1176 = some (.iadd, 1, 0, 0, []) := rfl
theorem rw_0_1177 : mm_code 0 1177 = some (.iaload, 1, 0, 0, []) := rfl
theorem rw_0_1178 : mm_code 0 1178 = some (.aload_n 0, 1, 0, 0, []) := rfl
theorem rw_0_1179 : mm_code 0 1179 = some (.iload 4, 2, 0, 0, []) := rfl
theorem rw_0_1181 : mm_code 0 1181 = some (.iconst 3, 1, 3, 0, []) := rfl
theorem rw_0_1182 : mm_code 0 1182 = some (.iadd, 1, 0, 0, []) := rfl
theorem rw_0_1183 : mm_code 0 1183 = some (.iaload, 1, 0, 0, []) := rfl
theorem rw_0_1184 : mm_code 0 1184 = some (.aload_n 0, 1, 0, 0, []) := rfl
theorem rw_0_1185 : mm_code 0 1185 = some (.iload 4, 2, 0, 0, []) := rfl
theorem rw_0_1187 : mm_code 0 1187 = some (.iconst 4, 1, 4, 0, []) := rfl
theorem rw_0_1188 : mm_code 0 1188 = some (.iadd, 1, 0, 0, []) := rfl
theorem rw_0_1189 : mm_code 0 1189 = some (.iaload, 1, 0, 0, []) := rfl
theorem rw_0_1190 : mm_code 0 1190 = some (.aload_n 0, 1, 0, 0, []) := rfl
theorem rw_0_1191 : mm_code 0 1191 = some (.iload 4, 2, 0, 0, []) := rfl
theorem rw_0_1193 : mm_code 0 1193 = some (.iconst 5, 1, 5, 0, []) := rfl
theorem rw_0_1194 : mm_code 0 1194 = some (.iadd, 1, 0, 0, []) := rfl
theorem rw_0_1195 : mm_code 0 1195 = some (.iaload, 1, 0, 0, []) := rfl
theorem rw_0_1196 : mm_code 0 1196 = some (.invokevirtual 141, 3, 237, 6, [58, 0]) := rfl
theorem rw_0_1199 : mm_code 0 1199 = some (.pop, 1, 0, 0, []) := rfl
theorem rw_0_1200 : mm_code 0 1200 = some (.goto 114, 3, 1314, 0, []) := rfl
theorem rw_0_1203 : mm_code 0 1203 = some (.aload_n 1, 1, 0, 0, []) := rfl
theorem rw_0_1204 : mm_code 0 1204 = some (.aload_n 0, 1, 0, 0, []) := rfl
theorem rw_0_1205 : mm_code 0 1205 = some (.iload 4, 2, 0, 0, []) := rfl
theorem rw_0_1207 : mm_code 0 1207 = some (.iconst 1, 1, 1, 0, []) := rfl
theorem rw_0_1208 : mm_code 0 1208 = some (.iadd, 1, 0, 0, []) := rfl
theorem rw_0_1209 : mm_code 0 1209 = some (.iaload, 1, 0, 0, []) := rfl
theorem rw_0_1210 : mm_code 0 1210 = some (.aload_n 0, 1, 0, 0, []) := rfl
theorem rw_0_1211 : mm_code 0 1211 = some (.iload 4, 2, 0, 0, []) := rfl
theorem rw_0_1213 : mm_code 0 1213 = some (.iconst 2, 1, 2, 0, []) := rfl
theorem rw_0_1214 : mm_code 0 1214 = some (.iadd, 1, 0, 0, []) := rfl
theorem rw_0_1215 : mm_code 0 1215 = some (.iaload, 1, 0, 0, []) := rfl
theorem rw_0_1216 : mm_code 0 1216 = some (.invokevirtual 142, 3, 136, 3, [59, 0]) := rfl
theorem rw_0_1219 : mm_code 0 1219 = some (.pop, 1, 0, 0, []) := rfl
theorem rw_0_1220 : mm_code 0 1220 = some (.aload_n 2, 1, 0, 0, []) := rfl
theorem rw_0_1221 : mm_code 0 1221 = some (.aload_n 0, 1, 0, 0, []) := rfl
theorem rw_0_1222 : mm_code 0 1222 = some (.iload 4, 2, 0, 0, []) := rfl
theorem rw_0_1224 : mm_code 0 1224 = some (.iconst 1, 1, 1, 0, []) := rfl
theorem rw_0_1225 : mm_code 0 1225 = some (.iadd, 1, 0, 0, []) := rfl
theorem rw_0_1226 : mm_code 0 1226 = some (.iaload, 1, 0, 0, []) := rfl
theorem rw_0_1227 : mm_code 0 1227 = some (.aload_n 0, 1, 0, 0, []) := rfl
theorem rw_0_1228 : mm_code 0 1228 = some (.iload 4, 2, 0, 0, []) := rfl
theorem rw_0_1230 : mm_code 0 1230 = some (.iconst 2, 1, 2, 0, []) := rfl
theorem rw_0_1231 : mm_code 0 1231 = some (.iadd, 1, 0, 0, []) := rfl
theorem rw_0_1232 : mm_code 0 1232 = some (.iaload, 1, 0, 0, []) := rfl
theorem rw_0_1233 : mm_code 0 1233 = some (.invokevirtual 145, 3, 241, 3, [60, 0]) := rfl
theorem rw_0_1236 : mm_code 0 1236 = some (.pop, 1, 0, 0, []) := rfl
theorem rw_0_1237 : mm_code 0 1237 = some (.goto 77, 3, 1314, 0, []) := rfl
theorem rw_0_1240 : mm_code 0 1240 = some (.aload_n 1, 1, 0, 0, []) := rfl
theorem rw_0_1241 : mm_code 0 1241 = some (.aload_n 0, 1, 0, 0, []) := rfl
theorem rw_0_1242 : mm_code 0 1242 = some (.iload 4, 2, 0, 0, []) := rfl
theorem rw_0_1244 : mm_code 0 1244 = some (.iconst 1, 1, 1, 0, []) := rfl
theorem rw_0_1245 : mm_code 0 1245 = some (.iadd, 1, 0, 0, []) := rfl
theorem rw_0_1246 : mm_code 0 1246 = some (.iaload, 1, 0, 0, []) := rfl
theorem rw_0_1247 : mm_code 0 1247 = some (.aload_n 0, 1, 0, 0, []) := rfl
theorem rw_0_1248 : mm_code 0 1248 = some (.iload 4, 2, 0, 0, []) := rfl
theorem rw_0_1250 : mm_code 0 1250 = some (.iconst 2, 1, 2, 0, []) := rfl
theorem rw_0_1251 : mm_code 0 1251 = some (.iadd, 1, 0, 0, []) := rfl
theorem rw_0_1252 : mm_code 0 1252 = some (.iaload, 1, 0, 0, []) := rfl
theorem rw_0_1253 : mm_code 0 1253 = some (.aload_n 0, 1, 0, 0, []) := rfl
theorem rw_0_1254 : mm_code 0 1254 = some (.iload 4, 2, 0, 0, []) := rfl
theorem rw_0_1256 : mm_code 0 1256 = some (.iconst 3, 1, 3, 0, []) := rfl
theorem rw_0_1257 : mm_code 0 1257 = some (.iadd, 1, 0, 0, []) := rfl
theorem rw_0_1258 : mm_code 0 1258 = some (.iaload, 1, 0, 0, []) := rfl
theorem rw_0_1259 : mm_code 0 1259 = some (.invokevirtual 146, 3, 137, 4, [61, 0]) := rfl
theorem rw_0_1262 : mm_code 0 1262 = some (.pop, 1, 0, 0, []) := rfl
theorem rw_0_1263 : mm_code 0 1263 = some (.aload_n 2, 1, 0, 0, []) := rfl
theorem rw_0_1264 : mm_code 0 1264 = some (.aload_n 0, 1, 0, 0, []) := rfl
theorem rw_0_1265 : mm_code 0 1265 = some (.iload 4, 2, 0, 0, []) := rfl
theorem rw_0_1267 : mm_code 0 1267 = some (.iconst 1, 1, 1, 0, []) := rfl
theorem rw_0_1268 : mm_code 0 1268 = some (.iadd, 1, 0, 0, []) := rfl
theorem rw_0_1269 : mm_code 0 1269 = some (.iaload, 1, 0, 0, []) := rfl
theorem rw_0_1270 : mm_code 0 1270 = some (.aload_n 0, 1, 0, 0, []) := rfl
theorem rw_0_1271 : mm_code 0 1271 = some (.iload 4, 2, 0, 0, []) := rfl
theorem rw_0_1273 : mm_code 0 1273 = some (.iconst 2, 1, 2, 0, []) := rfl
theorem rw_0_1274 : mm_code 0 1274 = some (.iadd, 1, 0, 0, []) := rfl
theorem rw_0_1275 : mm_code 0 1275 = some (.iaload, 1, 0, 0, []) := rfl
theorem rw_0_1276 : mm_code 0 1276 = some (.aload_n 0, 1, 0, 0, []) := rfl
theorem rw_0_1277 : mm_code 0 1277 = some (.iload 4, 2, 0, 0, []) := rfl
theorem rw_0_1279 : mm_code 0 1279 = some (.iconst 3, 1, 3, 0, []) := rfl
theorem rw_0_1280 : mm_code 0 1280 = some (.iadd, 1, 0, 0, []) := rfl
theorem rw_0_1281 : mm_code 0 1281 = some (.iaload, 1, 0, 0, []) := rfl
theorem rw_0_1282 : mm_code 0 1282 = some (.invokevirtual 149, 3, 244, 4, [62, 0]) := rfl
theorem rw_0_1285 : mm_code 0 1285 = some (.pop, 1, 0, 0, []) := rfl
theorem rw_0_1286 : mm_code 0 1286 = some (.goto 28, 3, 1314, 0, []) := rfl
theorem rw_0_1289 : mm_code 0 1289 = some (.aload_n 1, 1, 0, 0, []) := rfl
theorem rw_0_1290 : mm_code 0 1290 = some (.aload_n 0, 1, 0, 0, []) := rfl
theorem rw_0_1291 : mm_code 0 1291 = some (.iload 4, 2, 0, 0, []) := rfl
theorem rw_0_1293 : mm_code 0 1293 = some (.iconst 1, 1, 1, 0, []) := rfl
theorem rw_0_1294 : mm_code 0 1294 = some (.iadd, 1, 0, 0, []) := rfl
theorem rw_0_1295 : mm_code 0 1295 = some (.iaload, 1, 0, 0, []) := rfl
theorem rw_0_1296 : mm_code 0 1296 = some (.invokevirtual 150, 3, 138, 2, [63, 0]) := rfl
theorem rw_0_1299 : mm_code 0 1299 = some (.pop, 1, 0, 0, []) := rfl
theorem rw_0_1300 : mm_code 0 1300 = some (.aload_n 2, 1, 0, 0, []) := rfl
theorem rw_0_1301 : mm_code 0 1301 = some (.aload_n 0, 1, 0, 0, []) := rfl
theorem rw_0_1302 : mm_code 0 1302 = some (.iload 4, 2, 0, 0, []) := rfl
theorem rw_0_1304 : mm_code 0 1304 = some (.iconst 1, 1, 1, 0, []) := rfl
theorem rw_0_1305 : mm_code 0 1305 = some (.iadd, 1, 0, 0, []) := rfl
theorem rw_0_1306 : mm_code 0 1306 = some (.iaload, 1, 0, 0, []) := rfl
theorem rw_0_1307 : mm_code 0 1307 = some (.invokevirtual 153, 3, 245, 2, [64, 0]) := rfl
theorem rw_0_1310 : mm_code 0 1310 = some (.pop, 1, 0, 0, []) := rfl
theorem rw_0_1311 : mm_code 0 1311 = some (.goto 3, 3, 1314, 0, []) := rfl
theorem rw_0_1314 : mm_code 0 1314 = some (.iinc 4 6, 3, 6, 0, []) := rfl
theorem rw_0_1317 : mm_code 0 1317 = some (.goto (-1294), 3, 23, 0, []) := rfl
theorem rw_0_1320 : mm_code 0 1320 = some (.iconst 1, 1, 1, 0, []) := rfl
theorem rw_0_1321 : mm_code 0 1321 = some (.ireturn, 1, 1, 0, []) := rfl
