theorem rw_0_0 : mm_code 0 0 = some (.new 8, 3, 10, 13, [0]) := rfl
theorem rw_0_3 : mm_code 0 3 = some (.dup, 1, 0, 0, []) := rfl
theorem rw_0_4 : mm_code 0 4 = some (.invokespecial 17, 3, 109, 1, [1, 0]) := rfl
theorem rw_0_7 : mm_code 0 7 = some (.astore_n 1, 1, 0, 0, []) := rfl
theorem rw_0_8 : mm_code 0 8 = some (.new 18, 3, 11, 78, [2]) := rfl
theorem rw_0_11 : mm_code 0 11 = some (.dup, 1, 0, 0, []) := rfl
theorem rw_0_12 : mm_code 0 12 = some (.invokespecial 20, 3, 146, 1, [3, 0]) := rfl
theorem rw_0_15 : mm_code 0 15 = some (.astore_n 2, 1, 0, 0, []) := rfl
theorem rw_0_16 : mm_code 0 16 = some (.iconst 1, 1, 1, 0, []) := rfl
theorem rw_0_17 : mm_code 0 17 = some (.newarray .long, 2, 101, 0, []) := rfl
theorem rw_0_19 : mm_code 0 19 = some (.astore_n 3, 1, 0, 0, []) := rfl
theorem rw_0_20 : mm_code 0 20 = some (.iconst 0, 1, 0, 0, []) := rfl
theorem rw_0_21 : mm_code 0 21 = some (.istore 4, 2, 0, 0, []) := rfl
theorem rw_0_23 : mm_code 0 23 = some (.iload 4, 2, 0, 0, []) := rfl
theorem rw_0_25 : mm_code 0 25 = some (.aload_n 0, 1, 0, 0, []) := rfl
theorem rw_0_26 : mm_code 0 26 = some (.arraylength, 1, 0, 0, []) := rfl
theorem rw_0_27 : mm_code 0 27 = some (.bipush 6, 2, 6, 0, []) := rfl
theorem rw_0_29 : mm_code 0 29 = some (.isub, 1, 0, 0, []) := rfl
theorem rw_0_30 : mm_code 0 30 = some (.if_icmp .gt 1317, 3, 1347, 0, []) := rfl
theorem rw_0_33 : mm_code 0 33 = some (.aload_n 0, 1, 0, 0, []) := rfl
theorem rw_0_34 : mm_code 0 34 = some (.iload 4, 2, 0, 0, []) := rfl
theorem rw_0_36 : mm_code 0 36 = some (.iaload, 1, 0, 0, []) := rfl
theorem rw_0_37 : mm_code 0 37 = some (.bipush 31, 2, 31, 0, []) := rfl
theorem rw_0_39 : mm_code 0 39 = some (.iand, 1, 0, 0, []) := rfl
theorem rw_0_40 : mm_code 0 40 = some (.tableswitch 1301 0 29 #[136, 209, 234, 259, 284, 309, 346, 414, 451, 488, 501, 550, 587, 652, 689, 714, 751, 800, 825, 838, 875, 944, 957, 994, 1043, 1080, 1117, 1190, 1227, 1276], 136, 1341, 0, [176, 249, 274, 299, 324, 349, 386, 454, 491, 528, 541, 590, 627, 692, 729, 754, 791, 840, 865, 878, 915, 984, 997, 1034, 1083, 1120, 1157, 1230, 1267, 1316]) := rfl
theorem rw_0_176 : mm_code 0 176 = some (.aload_n 1, 1, 0, 0, []) := rfl
theorem rw_0_177 : mm_code 0 177 = some (.aload_n 0, 1, 0, 0, []) := rfl
theorem rw_0_178 : mm_code 0 178 = some (.iload 4, 2, 0, 0, []) := rfl
theorem rw_0_180 : mm_code 0 180 = some (.iconst 1, 1, 1, 0, []) := rfl
theorem rw_0_181 : mm_code 0 181 = some (.iadd, 1, 0, 0, []) := rfl
theorem rw_0_182 : mm_code 0 182 = some (.iaload, 1, 0, 0, []) := rfl
theorem rw_0_183 : mm_code 0 183 = some (.aload_n 0, 1, 0, 0, []) := rfl
theorem rw_0_184 : mm_code 0 184 = some (.iload 4, 2, 0, 0, []) := rfl
theorem rw_0_186 : mm_code 0 186 = some (.iconst 2, 1, 2, 0, []) := rfl
theorem rw_0_187 : mm_code 0 187 = some (.iadd, 1, 0, 0, []) := rfl
theorem rw_0_188 : mm_code 0 188 = some (.iaload, 1, 0, 0, []) := rfl
theorem rw_0_189 : mm_code 0 189 = some (.aload_n 0, 1, 0, 0, []) := rfl
theorem rw_0_190 : mm_code 0 190 = some (.iload 4, 2, 0, 0, []) := rfl
theorem rw_0_192 : mm_code 0 192 = some (.iconst 3, 1, 3, 0, []) := rfl
theorem rw_0_193 : mm_code 0 193 = some (.iadd, 1, 0, 0, []) := rfl
theorem rw_0_194 : mm_code 0 194 = some (.iaload, 1, 0, 0, []) := rfl
theorem rw_0_195 : mm_code 0 195 = some (.aload_n 0, 1, 0, 0, []) := rfl
theorem rw_0_196 : mm_code 0 196 = some (.iload 4, 2, 0, 0, []) := rfl
theorem rw_0_198 : mm_code 0 198 = some (.iconst 4, 1, 4, 0, []) := rfl
theorem rw_0_199 : mm_code 0 199 = some (.iadd, 1, 0, 0, []) := rfl
theorem rw_0_200 : mm_code 0 200 = some (.iaload, 1, 0, 0, []) := rfl
theorem rw_0_201 : mm_code 0 201 = some (.aload_n 0, 1, 0, 0, []) := rfl
theorem rw_0_202 : mm_code 0 202 = some (.iload 4, 2, 0, 0, []) := rfl
theorem rw_0_204 : mm_code 0 204 = some (.iconst 5, 1, 5, 0, []) := rfl
theorem rw_0_205 : mm_code 0 205 = some (.iadd, 1, 0, 0, []) := rfl
theorem rw_0_206 : mm_code 0 206 = some (.iaload, 1, 0, 0, []) := rfl
theorem rw_0_207 : mm_code 0 207 = some (.invokevirtual 21, 3, 110, 6, [4, 0]) := rfl
theorem rw_0_210 : mm_code 0 210 = some (.pop, 1, 0, 0, []) := rfl
theorem rw_0_211 : mm_code 0 211 = some (.aload_n 2, 1, 0, 0, []) := rfl
theorem rw_0_212 : mm_code 0 212 = some (.aload_n 0, 1, 0, 0, []) := rfl
theorem rw_0_213 : mm_code 0 213 = some (.iload 4, 2, 0, 0, []) := rfl
theorem rw_0_215 : mm_code 0 215 = some (.iconst 1, 1, 1, 0, []) := rfl
theorem rw_0_216 : mm_code 0 216 = some (.iadd, 1, 0, 0, []) := rfl
theorem rw_0_217 : mm_code 0 217 = some (.iaload, 1, 0, 0, []) := rfl
theorem rw_0_218 : mm_code 0 218 = some (.aload_n 0, 1, 0, 0, []) := rfl
theorem rw_0_219 : mm_code 0 219 = some (.iload 4, 2, 0, 0, []) := rfl
theorem rw_0_221 : mm_code 0 221 = some (.iconst 2, 1, 2, 0, []) := rfl
theorem rw_0_222 : mm_code 0 222 = some (.iadd, 1, 0, 0, []) := rfl
theorem rw_0_223 : mm_code 0 223 = some (.iaload, 1, 0, 0, []) := rfl
theorem rw_0_224 : mm_code 0 224 = some (.aload_n 0, 1, 0, 0, []) := rfl
theorem rw_0_225 : mm_code 0 225 = some (.iload 4, 2, 0, 0, []) := rfl
theorem rw_0_227 : mm_code 0 227 = some (.iconst 3, 1, 3, 0, []) := rfl
theorem rw_0_228 : mm_code 0 228 = some (.iadd, 1, 0, 0, []) := rfl
theorem rw_0_229 : mm_code 0 229 = some (.iaload, 1, 0, 0, []) := rfl
theorem rw_0_230 : mm_code 0 230 = some (.aload_n 0, 1, 0, 0, []) := rfl
theorem rw_0_231 : mm_code 0 231 = some (.iload 4, 2, 0, 0, []) := rfl
theorem rw_0_233 : mm_code 0 233 = some (.iconst 4, 1, 4, 0, []) := rfl
theorem rw_0_234 : mm_code 0 234 = some (.iadd, 1, 0, 0, []) := rfl
theorem rw_0_235 : mm_code 0 235 = some (.iaload, 1, 0, 0, []) := rfl
theorem rw_0_236 : mm_code 0 236 = some (.aload_n 0, 1, 0, 0, []) := rfl
theorem rw_0_237 : mm_code 0 237 = some (.iload 4, 2, 0, 0, []) := rfl
theorem rw_0_239 : mm_code 0 239 = some (.iconst 5, 1, 5, 0, []) := rfl
theorem rw_0_240 : mm_code 0 240 = some (.iadd, 1, 0, 0, []) := rfl
theorem rw_0_241 : mm_code 0 241 = some (.iaload, 1, 0, 0, []) := rfl
theorem rw_0_242 : mm_code 0 242 = some (.invokevirtual 25, 3, 148, 6, [5, 0]) := rfl
theorem rw_0_245 : mm_code 0 245 = some (.pop, 1, 0, 0, []) := rfl
theorem rw_0_246 : mm_code 0 246 = some (.goto 1095, 3, 1341, 0, []) := rfl
theorem rw_0_249 : mm_code 0 249 = some (.aload_n 1, 1, 0, 0, []) := rfl
theorem rw_0_250 : mm_code 0 250 = some (.aload_n 0, 1, 0, 0, []) := rfl
theorem rw_0_251 : mm_code 0 251 = some (.iload 4, 2, 0, 0, []) := rfl
theorem rw_0_253 : mm_code 0 253 = some (.iconst 1, 1, 1, 0, []) := rfl
theorem rw_0_254 : mm_code 0 254 = some (.iadd, 1, 0, 0, []) := rfl
theorem rw_0_255 : mm_code 0 255 = some (.iaload, 1, 0, 0, []) := rfl
theorem rw_0_256 : mm_code 0 256 = some (.invokevirtual 26, 3, 111, 2, [6, 0]) := rfl
theorem rw_0_259 : mm_code 0 259 = some (.pop, 1, 0, 0, []) := rfl
theorem rw_0_260 : mm_code 0 260 = some (.aload_n 2, 1, 0, 0, []) := rfl
theorem rw_0_261 : mm_code 0 261 = some (.aload_n 0, 1, 0, 0, []) := rfl
theorem rw_0_262 : mm_code 0 262 = some (.iload 4, 2, 0, 0, []) := rfl
theorem rw_0_264 : mm_code 0 264 = some (.iconst 1, 1, 1, 0, []) := rfl
theorem rw_0_265 : mm_code 0 265 = some (.iadd, 1, 0, 0, []) := rfl
theorem rw_0_266 : mm_code 0 266 = some (.iaload, 1, 0, 0, []) := rfl
theorem rw_0_267 : mm_code 0 267 = some (.invokevirtual 30, 3, 173, 2, [7, 0]) := rfl
theorem rw_0_270 : mm_code 0 270 = some (.pop, 1, 0, 0, []) := rfl
theorem rw_0_271 : mm_code 0 271 = some (.goto 1070, 3, 1341, 0, []) := rfl
theorem rw_0_274 : mm_code 0 274 = some (.aload_n 1, 1, 0, 0, []) := rfl
theorem rw_0_275 : mm_code 0 275 = some (.aload_n 0, 1, 0, 0, []) := rfl
theorem rw_0_276 : mm_code 0 276 = some (.iload 4, 2, 0, 0, []) := rfl
theorem rw_0_278 : mm_code 0 278 = some (.iconst 1, 1, 1, 0, []) := rfl
theorem rw_0_279 : mm_code 0 279 = some (.iadd, 1, 0, 0, []) := rfl
theorem rw_0_280 : mm_code 0 280 = some (.iaload, 1, 0, 0, []) := rfl
theorem rw_0_281 : mm_code 0 281 = some (.invokevirtual 31, 3, 112, 2, [8, 0]) := rfl
theorem rw_0_284 : mm_code 0 284 = some (.pop, 1, 0, 0, []) := rfl
theorem rw_0_285 : mm_code 0 285 = some (.aload_n 2, 1, 0, 0, []) := rfl
theorem rw_0_286 : mm_code 0 286 = some (.aload_n 0, 1, 0, 0, []) := rfl
theorem rw_0_287 : mm_code 0 287 = some (.iload 4, 2, 0, 0, []) := rfl
theorem rw_0_289 : mm_code 0 289 = some (.iconst 1, 1, 1, 0, []) := rfl
theorem rw_0_290 : mm_code 0 290 = some (.iadd, 1, 0, 0, []) := rfl
theorem rw_0_291 : mm_code 0 291 = some (.iaload, 1, 0, 0, []) := rfl
theorem rw_0_292 : mm_code 0 292 = some (.invokevirtual 34, 3, 219, 2, [9, 0]) := rfl
theorem rw_0_295 : mm_code 0 295 = some (.pop, 1, 0, 0, []) := rfl
theorem rw_0_296 : mm_code 0 296 = some (.goto 1045, 3, 1341, 0, []) := rfl
theorem rw_0_299 : mm_code 0 299 = some (.aload_n 1, 1, 0, 0, []) := rfl
theorem rw_0_300 : mm_code 0 300 = some (.aload_n 0, 1, 0, 0, []) := rfl
theorem rw_0_301 : mm_code 0 301 = some (.iload 4, 2, 0, 0, []) := rfl
theorem rw_0_303 : mm_code 0 303 = some (.iconst 1, 1, 1, 0, []) := rfl
theorem rw_0_304 : mm_code 0 304 = some (.iadd, 1, 0, 0, []) := rfl
theorem rw_0_305 : mm_code 0 305 = some (.iaload, 1, 0, 0, []) := rfl
theorem rw_0_306 : mm_code 0 306 = some (.invokevirtual 35, 3, 113, 2, [10, 0]) := rfl
theorem rw_0_309 : mm_code 0 309 = some (.pop, 1, 0, 0, []) := rfl
theorem rw_0_310 : mm_code 0 310 = some (.aload_n 2, 1, 0, 0, []) := rfl
theorem rw_0_311 : mm_code 0 311 = some (.aload_n 0, 1, 0, 0, []) := rfl
theorem rw_0_312 : mm_code 0 312 = some (.iload 4, 2, 0, 0, []) := rfl
theorem rw_0_314 : mm_code 0 314 = some (.iconst 1, 1, 1, 0, []) := rfl
theorem rw_0_315 : mm_code 0 315 = some (.iadd, 1, 0, 0, []) := rfl
theorem rw_0_316 : mm_code 0 316 = some (.iaload, 1, 0, 0, []) := rfl
theorem rw_0_317 : mm_code 0 317 = some (.invokevirtual 38, 3, 227, 2, [11, 0]) := rfl
theorem rw_0_320 : mm_code 0 320 = some (.pop, 1, 0, 0, []) := rfl
theorem rw_0_321 : mm_code 0 321 = some (.goto 1020, 3, 1341, 0, []) := rfl
theorem rw_0_324 : mm_code 0 324 = some (.aload_n 1, 1, 0, 0, []) := rfl
theorem rw_0_325 : mm_code 0 325 = some (.aload_n 0, 1, 0, 0, []) := rfl
theorem rw_0_326 : mm_code 0 326 = some (.iload 4, 2, 0, 0, []) := rfl
theorem rw_0_328 : mm_code 0 328 = some (.iconst 1, 1, 1, 0, []) := rfl
theorem rw_0_329 : mm_code 0 329 = some (.iadd, 1, 0, 0, []) := rfl
theorem rw_0_330 : mm_code 0 330 = some (.iaload, 1, 0, 0, []) := rfl
theorem rw_0_331 : mm_code 0 331 = some (.invokevirtual 39, 3, 114, 2, [12, 0]) := rfl
theorem rw_0_334 : mm_code 0 334 = some (.pop, 1, 0, 0, []) := rfl
theorem rw_0_335 : mm_code 0 335 = some (.aload_n 2, 1, 0, 0, []) := rfl
theorem rw_0_336 : mm_code 0 336 = some (.aload_n 0, 1, 0, 0, []) := rfl
theorem rw_0_337 : mm_code 0 337 = some (.iload 4, 2, 0, 0, []) := rfl
theorem rw_0_339 : mm_code 0 339 = some (.iconst 1, 1, 1, 0, []) := rfl
theorem rw_0_340 : mm_code 0 340 = some (.iadd, 1, 0, 0, []) := rfl
theorem rw_0_341 : mm_code 0 341 = some (.iaload, 1, 0, 0, []) := rfl
theorem rw_0_342 : mm_code 0 342 = some (.invokevirtual 42, 3, 174, 2, [13, 0]) := rfl
theorem rw_0_345 : mm_code 0 345 = some (.pop, 1, 0, 0, []) := rfl
theorem rw_0_346 : mm_code 0 346 = some (.goto 995, 3, 1341, 0, []) := rfl
theorem rw_0_349 : mm_code 0 349 = some (.aload_n 1, 1, 0, 0, []) := rfl
theorem rw_0_350 : mm_code 0 350 = some (.aload_n 0, 1, 0, 0, []) := rfl
theorem rw_0_351 : mm_code 0 351 = some (.iload 4, 2, 0, 0, []) := rfl
theorem rw_0_353 : mm_code 0 353 = some (.iconst 1, 1, 1, 0, []) := rfl
theorem rw_0_354 : mm_code 0 354 = some (.iadd, 1, 0, 0, []) := rfl
theorem rw_0_355 : mm_code 0 355 = some (.iaload, 1, 0, 0, []) := rfl
theorem rw_0_356 : mm_code 0 356 = some (.aload_n 0, 1, 0, 0, []) := rfl
theorem rw_0_357 : mm_code 0 357 = some (.iload 4, 2, 0, 0, []) := rfl
theorem rw_0_359 : mm_code 0 359 = some (.iconst 2, 1, 2, 0, []) := rfl
theorem rw_0_360 : mm_code 0 360 = some (.iadd, 1, 0, 0, []) := rfl
theorem rw_0_361 : mm_code 0 361 = some (.iaload, 1, 0, 0, []) := rfl
theorem rw_0_362 : mm_code 0 362 = some (.invokevirtual 43, 3, 115, 3, [14, 0]) := rfl
theorem rw_0_365 : mm_code 0 365 = some (.pop, 1, 0, 0, []) := rfl
theorem rw_0_366 : mm_code 0 366 = some (.aload_n 2, 1, 0, 0, []) := rfl
theorem rw_0_367 : mm_code 0 367 = some (.aload_n 0, 1, 0, 0, []) := rfl
theorem rw_0_368 : mm_code 0 368 = some (.iload 4, 2, 0, 0, []) := rfl
theorem rw_0_370 : mm_code 0 370 = some (.iconst 1, 1, 1, 0, []) := rfl
theorem rw_0_371 : mm_code 0 371 = some (.iadd, 1, 0, 0, []) := rfl
theorem rw_0_372 : mm_code 0 372 = some (.iaload, 1, 0, 0, []) := rfl
theorem rw_0_373 : mm_code 0 373 = some (.aload_n 0, 1, 0, 0, []) := rfl
theorem rw_0_374 : mm_code 0 374 = some (.iload 4, 2, 0, 0, []) := rfl
theorem rw_0_376 : mm_code 0 376 = some (.iconst 2, 1, 2, 0, []) := rfl
theorem rw_0_377 : mm_code 0 377 = some (.iadd, 1, 0, 0, []) := rfl
theorem rw_0_378 : mm_code 0 378 = some (.iaload, 1, 0, 0, []) := rfl
theorem rw_0_379 : mm_code 0 379 = some (.invokevirtual 46, 3, 177, 3, [15, 0]) := rfl
theorem rw_0_382 : mm_code 0 382 = some (.pop, 1, 0, 0, []) := rfl
theorem rw_0_383 : mm_code 0 383 = some (.goto 958, 3, 1341, 0, []) := rfl
theorem rw_0_386 : mm_code 0 386 = some (.aload_n 1, 1, 0, 0, []) := rfl
theorem rw_0_387 : mm_code 0 387 = some (.aload_n 0, 1, 0, 0, []) := rfl
theorem rw_0_388 : mm_code 0 388 = some (.iload 4, 2, 0, 0, []) := rfl
theorem rw_0_390 : mm_code 0 390 = some (.iconst 1, 1, 1, 0, []) := rfl
theorem rw_0_391 : mm_code 0 391 = some (.iadd, 1, 0, 0, []) := rfl
theorem rw_0_392 : mm_code 0 392 = some (.iaload, 1, 0, 0, []) := rfl
theorem rw_0_393 : mm_code 0 393 = some (.aload_n 0, 1, 0, 0, []) := rfl
theorem rw_0_394 : mm_code 0 394 = some (.iload 4, 2, 0, 0, []) := rfl
theorem rw_0_396 : mm_code 0 396 = some (.iconst 2, 1, 2, 0, []) := rfl
theorem rw_0_397 : mm_code 0 397 = some (.iadd, 1, 0, 0, []) := rfl
theorem rw_0_398 : mm_code 0 398 = some (.iaload, 1, 0, 0, []) := rfl
theorem rw_0_399 : mm_code 0 399 = some (.aload_n 3, 1, 0, 0, []) := rfl
theorem rw_0_400 : mm_code 0 400 = some (.invokestatic 47, 3, 998, 4, [16, 0]) := rfl
theorem rw_0_403 : mm_code 0 403 = some (.istore 5, 2, 0, 0, []) := rfl
theorem rw_0_405 : mm_code 0 405 = some (.aload_n 2, 1, 0, 0, []) := rfl
theorem rw_0_406 : mm_code 0 406 = some (.aload_n 0, 1, 0, 0, []) := rfl
theorem rw_0_407 : mm_code 0 407 = some (.iload 4, 2, 0, 0, []) := rfl
theorem rw_0_409 : mm_code 0 409 = some (.iconst 1, 1, 1, 0, []) := rfl
theorem rw_0_410 : mm_code 0 410 = some (.iadd, 1, 0, 0, []) := rfl
theorem rw_0_411 : mm_code 0 411 = some (.iaload, 1, 0, 0, []) := rfl
theorem rw_0_412 : mm_code 0 412 = some (.aload_n 0, 1, 0, 0, []) := rfl
theorem rw_0_413 : mm_code 0 413 = some (.iload 4, 2, 0, 0, []) := rfl
theorem rw_0_415 : mm_code 0 415 = some (.iconst 2, 1, 2, 0, []) := rfl
theorem rw_0_416 : mm_code 0 416 = some (.iadd, 1, 0, 0, []) := rfl
theorem rw_0_417 : mm_code 0 417 = some (.iaload, 1, 0, 0, []) := rfl
theorem rw_0_418 : mm_code 0 418 = some (.invokevirtual 52, 3, 182, 3, [17, 0]) := rfl
theorem rw_0_421 : mm_code 0 421 = some (.istore 6, 2, 0, 0, []) := rfl
theorem rw_0_423 : mm_code 0 423 = some (.aload_n 2, 1, 0, 0, []) := rfl
theorem rw_0_424 : mm_code 0 424 = some (.invokevirtual 53, 3, 147, 1, [18, 0]) := rfl
theorem rw_0_427 : mm_code 0 427 = some (.iload 5, 2, 0, 0, []) := rfl
theorem rw_0_429 : mm_code 0 429 = some (.if_icmp .eq 5, 3, 434, 0, []) := rfl
theorem rw_0_432 : mm_code 0 432 = some (.iconst 0, 1, 0, 0, []) := rfl
theorem rw_0_433 : mm_code 0 433 = some (.ireturn, 1, 1, 0, []) := rfl
theorem rw_0_434 : mm_code 0 434 = some (.iload 5, 2, 0, 0, []) := rfl
theorem rw_0_436 : mm_code 0 436 = some (.ifCond .ne 15, 3, 451, 0, []) := rfl
theorem rw_0_439 : mm_code 0 439 = some (.aload_n 3, 1, 0, 0, []) := rfl
theorem rw_0_440 : mm_code 0 440 = some (.iconst 0, 1, 0, 0, []) := rfl
theorem rw_0_441 : mm_code 0 441 = some (.laload, 1, 0, 0, []) := rfl
theorem rw_0_442 : mm_code 0 442 = some (.iload 6, 2, 0, 0, []) := rfl
theorem rw_0_444 : mm_code 0 444 = some (.i2l, 1, 0, 0, []) := rfl
theorem rw_0_445 : mm_code 0 445 = some (.lcmp, 1, 0, 0, []) := rfl
theorem rw_0_446 : mm_code 0 446 = some (.ifCond .eq 5, 3, 451, 0, []) := rfl
theorem rw_0_449 : mm_code 0 449 = some (.iconst 0, 1, 0, 0, []) := rfl
theorem rw_0_450 : mm_code 0 450 = some (.ireturn, 1, 1, 0, []) := rfl
theorem rw_0_451 : mm_code 0 451 = some (.goto 890, 3, 1341, 0, []) := rfl
theorem rw_0_454 : mm_code 0 454 = some (.aload_n 1, 1, 0, 0, []) := rfl
theorem rw_0_455 : mm_code 0 455 = some (.aload_n 0, 1, 0, 0, []) := rfl
theorem rw_0_456 : mm_code 0 456 = some (.iload 4, 2, 0, 0, []) := rfl
theorem rw_0_458 : mm_code 0 458 = some (.iconst 1, 1, 1, 0, []) := rfl
theorem rw_0_459 : mm_code 0 459 = some (.iadd, 1, 0, 0, []) := rfl
theorem rw_0_460 : mm_code 0 460 = some (.iaload, 1, 0, 0, []) := rfl
theorem rw_0_461 : mm_code 0 461 = some (.aload_n 0, 1, 0, 0, []) := rfl
theorem rw_0_462 : mm_code 0 462 = some (.iload 4, 2, 0, 0, []) := rfl
theorem rw_0_464 : mm_code 0 464 = some (.iconst 2, 1, 2, 0, []) := rfl
theorem rw_0_465 : mm_code 0 465 = some (.iadd, 1, 0, 0, []) := rfl
theorem rw_0_466 : mm_code 0 466 = some (.iaload, 1, 0, 0, []) := rfl
theorem rw_0_467 : mm_code 0 467 = some (.invokevirtual 57, 3, 116, 3, [19, 0]) := rfl
theorem rw_0_470 : mm_code 0 470 = some (.pop2, 1, 0, 0, []) := rfl
theorem rw_0_471 : mm_code 0 471 = some (.aload_n 2, 1, 0, 0, []) := rfl
theorem rw_0_472 : mm_code 0 472 = some (.aload_n 0, 1, 0, 0, []) := rfl
theorem rw_0_473 : mm_code 0 473 = some (.iload 4, 2, 0, 0, []) := rfl
theorem rw_0_475 : mm_code 0 475 = some (.iconst 1, 1, 1, 0, []) := rfl
theorem rw_0_476 : mm_code 0 476 = some (.iadd, 1, 0, 0, []) := rfl
theorem rw_0_477 : mm_code 0 477 = some (.iaload, 1, 0, 0, []) := rfl
theorem rw_0_478 : mm_code 0 478 = some (.aload_n 0, 1, 0, 0, []) := rfl
theorem rw_0_479 : mm_code 0 479 = some (.iload 4, 2, 0, 0, []) := rfl
theorem rw_0_481 : mm_code 0 481 = some (.iconst 2, 1, 2, 0, []) := rfl
theorem rw_0_482 : mm_code 0 482 = some (.iadd, 1, 0, 0, []) := rfl
theorem rw_0_483 : mm_code 0 483 = some (.iaload, 1, 0, 0, []) := rfl
theorem rw_0_484 : mm_code 0 484 = some (.invokevirtual 61, 3, 185, 3, [20, 0]) := rfl
theorem rw_0_487 : mm_code 0 487 = some (.pop2, 1, 0, 0, []) := rfl
theorem rw_0_488 : mm_code 0 488 = some (.goto 853, 3, 1341, 0, []) := rfl
theorem rw_0_491 : mm_code 0 491 = some (.aload_n 1, 1, 0, 0, []) := rfl
theorem rw_0_492 : mm_code 0 492 = some (.aload_n 0, 1, 0, 0, []) := rfl
theorem rw_0_493 : mm_code 0 493 = some (.iload 4, 2, 0, 0, []) := rfl
theorem rw_0_495 : mm_code 0 495 = some (.iconst 1, 1, 1, 0, []) := rfl
theorem rw_0_496 : mm_code 0 496 = some (.iadd, 1, 0, 0, []) := rfl
theorem rw_0_497 : mm_code 0 497 = some (.iaload, 1, 0, 0, []) := rfl
theorem rw_0_498 : mm_code 0 498 = some (.aload_n 0, 1, 0, 0, []) := rfl
theorem rw_0_499 : mm_code 0 499 = some (.iload 4, 2, 0, 0, []) := rfl
theorem rw_0_501 : mm_code 0 501 = some (.iconst 2, 1, 2, 0, []) := rfl
theorem rw_0_502 : mm_code 0 502 = some (.iadd, 1, 0, 0, []) := rfl
theorem rw_0_503 : mm_code 0 503 = some (.iaload, 1, 0, 0, []) := rfl
theorem rw_0_504 : mm_code 0 504 = some (.invokevirtual 62, 3, 117, 3, [21, 0]) := rfl
theorem rw_0_507 : mm_code 0 507 = some (.pop2, 1, 0, 0, []) := rfl
theorem rw_0_508 : mm_code 0 508 = some (.aload_n 2, 1, 0, 0, []) := rfl
theorem rw_0_509 : mm_code 0 509 = some (.aload_n 0, 1, 0, 0, []) := rfl
theorem rw_0_510 : mm_code 0 510 = some (.iload 4, 2, 0, 0, []) := rfl
theorem rw_0_512 : mm_code 0 512 = some (.iconst 1, 1, 1, 0, []) := rfl
theorem rw_0_513 : mm_code 0 513 = some (.iadd, 1, 0, 0, []) := rfl
theorem rw_0_514 : mm_code 0 514 = some (.iaload, 1, 0, 0, []) := rfl
theorem rw_0_515 : mm_code 0 515 = some (.aload_n 0, 1, 0, 0, []) := rfl
theorem rw_0_516 : mm_code 0 516 = some (.iload 4, 2, 0, 0, []) := rfl
theorem rw_0_518 : mm_code 0 518 = some (.iconst 2, 1, 2, 0, []) := rfl
theorem rw_0_519 : mm_code 0 519 = some (.iadd, 1, 0, 0, []) := rfl
theorem rw_0_520 : mm_code 0 520 = some (.iaload, 1, 0, 0, []) := rfl
theorem rw_0_521 : mm_code 0 521 = some (.invokevirtual 65, 3, 192, 3, [22, 0]) := rfl
theorem rw_0_524 : mm_code 0 524 = some (.pop2, 1, 0, 0, []) := rfl
theorem rw_0_525 : mm_code 0 525 = some (.goto 816, 3, 1341, 0, []) := rfl
theorem rw_0_528 : mm_code 0 528 = some (.aload_n 1, 1, 0, 0, []) := rfl
theorem rw_0_529 : mm_code 0 529 = some (.invokevirtual 66, 3, 118, 1, [23, 0]) := rfl
theorem rw_0_532 : mm_code 0 532 = some (.pop, 1, 0, 0, []) := rfl
theorem rw_0_533 : mm_code 0 533 = some (.aload_n 2, 1, 0, 0, []) := rfl
theorem rw_0_534 : mm_code 0 534 = some (.invokevirtual 69, 3, 193, 1, [24, 0]) := rfl
theorem rw_0_537 : mm_code 0 537 = some (.pop, 1, 0, 0, []) := rfl
theorem rw_0_538 : mm_code 0 538 = some (.goto 803, 3, 1341, 0, []) := rfl
theorem rw_0_541 : mm_code 0 541 = some (.aload_n 1, 1, 0, 0, []) := rfl
theorem rw_0_542 : mm_code 0 542 = some (.aload_n 0, 1, 0, 0, []) := rfl
theorem rw_0_543 : mm_code 0 543 = some (.iload 4, 2, 0, 0, []) := rfl
theorem rw_0_545 : mm_code 0 545 = some (.iconst 1, 1, 1, 0, []) := rfl
theorem rw_0_546 : mm_code 0 546 = some (.iadd, 1, 0, 0, []) := rfl
theorem rw_0_547 : mm_code 0 547 = some (.iaload, 1, 0, 0, []) := rfl
theorem rw_0_548 : mm_code 0 548 = some (.aload_n 0, 1, 0, 0, []) := rfl
theorem rw_0_549 : mm_code 0 549 = some (.iload 4, 2, 0, 0, []) := rfl
theorem rw_0_551 : mm_code 0 551 = some (.iconst 2, 1, 2, 0, []) := rfl
theorem rw_0_552 : mm_code 0 552 = some (.iadd, 1, 0, 0, []) := rfl
theorem rw_0_553 : mm_code 0 553 = some (.iaload, 1, 0, 0, []) := rfl
theorem rw_0_554 : mm_code 0 554 = some (.aload_n 0, 1, 0, 0, []) := rfl
theorem rw_0_555 : mm_code 0 555 = some (.iload 4, 2, 0, 0, []) := rfl
theorem rw_0_557 : mm_code 0 557 = some (.iconst 3, 1, 3, 0, []) := rfl
theorem rw_0_558 : mm_code 0 558 = some (.iadd, 1, 0, 0, []) := rfl
theorem rw_0_559 : mm_code 0 559 = some (.iaload, 1, 0, 0, []) := rfl
theorem rw_0_560 : mm_code 0 560 = some (.invokevirtual 70, 3, 119, 4, [25, 0]) := rfl
theorem rw_0_563 : mm_code 0 563 = some (.pop, 1, 0, 0, []) := rfl
theorem rw_0_564 : mm_code 0 564 = some (.aload_n 2, 1, 0, 0, []) := rfl
theorem rw_0_565 : mm_code 0 565 = some (.aload_n 0, 1, 0, 0, []) := rfl
theorem rw_0_566 : mm_code 0 566 = some (.iload 4, 2, 0, 0, []) := rfl
theorem rw_0_568 : mm_code 0 568 = some (.iconst 1, 1, 1, 0, []) := rfl
theorem rw_0_569 : mm_code 0 569 = some (.iadd, 1, 0, 0, []) := rfl
theorem rw_0_570 : mm_code 0 570 = some (.iaload, 1, 0, 0, []) := rfl
theorem rw_0_571 : mm_code 0 571 = some (.aload_n 0, 1, 0, 0, []) := rfl
theorem rw_0_572 : mm_code 0 572 = some (.iload 4, 2, 0, 0, []) := rfl
theorem rw_0_574 : mm_code 0 574 = some (.iconst 2, 1, 2, 0, []) := rfl
theorem rw_0_575 : mm_code 0 575 = some (.iadd, 1, 0, 0, []) := rfl
theorem rw_0_576 : mm_code 0 576 = some (.iaload, 1, 0, 0, []) := rfl
theorem rw_0_577 : mm_code 0 577 = some (.aload_n 0, 1, 0, 0, []) := rfl
theorem rw_0_578 : mm_code 0 578 = some (.iload 4, 2, 0, 0, []) := rfl
theorem rw_0_580 : mm_code 0 580 = some (.iconst 3, 1, 3, 0, []) := rfl
theorem rw_0_581 : mm_code 0 581 = some (.iadd, 1, 0, 0, []) := rfl
theorem rw_0_582 : mm_code 0 582 = some (.iaload, 1, 0, 0, []) := rfl
theorem rw_0_583 : mm_code 0 583 = some (.invokevirtual 74, 3, 194, 4, [26, 0]) := rfl
theorem rw_0_586 : mm_code 0 586 = some (.pop, 1, 0, 0, []) := rfl
theorem rw_0_587 : mm_code 0 587 = some (.goto 754, 3, 1341, 0, []) := rfl
theorem rw_0_590 : mm_code 0 590 = some (.aload_n 1, 1, 0, 0, []) := rfl
theorem rw_0_591 : mm_code 0 591 = some (.aload_n 0, 1, 0, 0, []) := rfl
theorem rw_0_592 : mm_code 0 592 = some (.iload 4, 2, 0, 0, []) := rfl
theorem rw_0_594 : mm_code 0 594 = some (.iconst 1, 1, 1, 0, []) := rfl
theorem rw_0_595 : mm_code 0 595 = some (.iadd, 1, 0, 0, []) := rfl
theorem rw_0_596 : mm_code 0 596 = some (.iaload, 1, 0, 0, []) := rfl
theorem rw_0_597 : mm_code 0 597 = some (.aload_n 0, 1, 0, 0, []) := rfl
theorem rw_0_598 : mm_code 0 598 = some (.iload 4, 2, 0, 0, []) := rfl
theorem rw_0_600 : mm_code 0 600 = some (.iconst 2, 1, 2, 0, []) := rfl
theorem rw_0_601 : mm_code 0 601 = some (.iadd, 1, 0, 0, []) := rfl
theorem rw_0_602 : mm_code 0 602 = some (.iaload, 1, 0, 0, []) := rfl
theorem rw_0_603 : mm_code 0 603 = some (.invokevirtual 75, 3, 120, 3, [27, 0]) := rfl
theorem rw_0_606 : mm_code 0 606 = some (.pop, 1, 0, 0, []) := rfl
theorem rw_0_607 : mm_code 0 607 = some (.aload_n 2, 1, 0, 0, []) := rfl
theorem rw_0_608 : mm_code 0 608 = some (.aload_n 0, 1, 0, 0, []) := rfl
theorem rw_0_609 : mm_code 0 609 = some (.iload 4, 2, 0, 0, []) := rfl
theorem rw_0_611 : mm_code 0 611 = some (.iconst 1, 1, 1, 0, []) := rfl
theorem rw_0_612 : mm_code 0 612 = some (.iadd, 1, 0, 0, []) := rfl
theorem rw_0_613 : mm_code 0 613 = some (.iaload, 1, 0, 0, []) := rfl
theorem rw_0_614 : mm_code 0 614 = some (.aload_n 0, 1, 0, 0, []) := rfl
theorem rw_0_615 : mm_code 0 615 = some (.iload 4, 2, 0, 0, []) := rfl
theorem rw_0_617 : mm_code 0 617 = some (.iconst 2, 1, 2, 0, []) := rfl
theorem rw_0_618 : mm_code 0 618 = some (.iadd, 1, 0, 0, []) := rfl
theorem rw_0_619 : mm_code 0 619 = some (.iaload, 1, 0, 0, []) := rfl
theorem rw_0_620 : mm_code 0 620 = some (.invokevirtual 78, 3, 195, 3, [28, 0]) := rfl
theorem rw_0_623 : mm_code 0 623 = some (.pop, 1, 0, 0, []) := rfl
theorem rw_0_624 : mm_code 0 624 = some (.goto 717, 3, 1341, 0, []) := rfl
theorem rw_0_627 : mm_code 0 627 = some (.aload_n 1, 1, 0, 0, []) := rfl
theorem rw_0_628 : mm_code 0 628 = some (.aload_n 0, 1, 0, 0, []) := rfl
theorem rw_0_629 : mm_code 0 629 = some (.iload 4, 2, 0, 0, []) := rfl
theorem rw_0_631 : mm_code 0 631 = some (.iconst 1, 1, 1, 0, []) := rfl
theorem rw_0_632 : mm_code 0 632 = some (.iadd, 1, 0, 0, []) := rfl
theorem rw_0_633 : mm_code 0 633 = some (.iaload, 1, 0, 0, []) := rfl
theorem rw_0_634 : mm_code 0 634 = some (.aload_n 0, 1, 0, 0, []) := rfl
theorem rw_0_635 : mm_code 0 635 = some (.iload 4, 2, 0, 0, []) := rfl
theorem rw_0_637 : mm_code 0 637 = some (.iconst 2, 1, 2, 0, []) := rfl
theorem rw_0_638 : mm_code 0 638 = some (.iadd, 1, 0, 0, []) := rfl
theorem rw_0_639 : mm_code 0 639 = some (.iaload, 1, 0, 0, []) := rfl
theorem rw_0_640 : mm_code 0 640 = some (.aload_n 0, 1, 0, 0, []) := rfl
theorem rw_0_641 : mm_code 0 641 = some (.iload 4, 2, 0, 0, []) := rfl
theorem rw_0_643 : mm_code 0 643 = some (.iconst 3, 1, 3, 0, []) := rfl
theorem rw_0_644 : mm_code 0 644 = some (.iadd, 1, 0, 0, []) := rfl
theorem rw_0_645 : mm_code 0 645 = some (.iaload, 1, 0, 0, []) := rfl
theorem rw_0_646 : mm_code 0 646 = some (.ifCond .eq 7, 3, 653, 0, []) := rfl
theorem rw_0_649 : mm_code 0 649 = some (.iconst 1, 1, 1, 0, []) := rfl
theorem rw_0_650 : mm_code 0 650 = some (.goto 4, 3, 654, 0, []) := rfl
theorem rw_0_653 : mm_code 0 653 = some (.iconst 0, 1, 0, 0, []) := rfl
theorem rw_0_654 : mm_code 0 654 = some (.invokevirtual 79, 3, 121, 4, [29, 0]) := rfl
theorem rw_0_657 : mm_code 0 657 = some (.pop, 1, 0, 0, []) := rfl
theorem rw_0_658 : mm_code 0 658 = some (.aload_n 2, 1, 0, 0, []) := rfl
theorem rw_0_659 : mm_code 0 659 = some (.aload_n 0, 1, 0, 0, []) := rfl
theorem rw_0_660 : mm_code 0 660 = some (.iload 4, 2, 0, 0, []) := rfl
theorem rw_0_662 : mm_code 0 662 = some (.iconst 1, 1, 1, 0, []) := rfl
theorem rw_0_663 : mm_code 0 663 = some (.iadd, 1, 0, 0, []) := rfl
theorem rw_0_664 : mm_code 0 664 = some (.iaload, 1, 0, 0, []) := rfl
theorem rw_0_665 : mm_code 0 665 = some (.aload_n 0, 1, 0, 0, []) := rfl
theorem rw_0_666 : mm_code 0 666 = some (.iload 4, 2, 0, 0, []) := rfl
theorem rw_0_668 : mm_code 0 668 = some (.iconst 2, 1, 2, 0, []) := rfl
theorem rw_0_669 : mm_code 0 669 = some (.iadd, 1, 0, 0, []) := rfl
theorem rw_0_670 : mm_code 0 670 = some (.iaload, 1, 0, 0, []) := rfl
theorem rw_0_671 : mm_code 0 671 = some (.aload_n 0, 1, 0, 0, []) := rfl
theorem rw_0_672 : mm_code 0 672 = some (.iload 4, 2, 0, 0, []) := rfl
theorem rw_0_674 : mm_code 0 674 = some (.iconst 3, 1, 3, 0, []) := rfl
theorem rw_0_675 : mm_code 0 675 = some (.iadd, 1, 0, 0, []) := rfl
theorem rw_0_676 : mm_code 0 676 = some (.iaload, 1, 0, 0, []) := rfl
theorem rw_0_677 : mm_code 0 677 = some (.ifCond .eq 7, 3, 684, 0, []) := rfl
theorem rw_0_680 : mm_code 0 680 = some (.iconst 1, 1, 1, 0, []) := rfl
theorem rw_0_681 : mm_code 0 681 = some (.goto 4, 3, 685, 0, []) := rfl
theorem rw_0_684 : mm_code 0 684 = some (.iconst 0, 1, 0, 0, []) := rfl
theorem rw_0_685 : mm_code 0 685 = some (.invokevirtual 83, 3, 196, 4, [30, 0]) := rfl
theorem rw_0_688 : mm_code 0 688 = some (.pop, 1, 0, 0, []) := rfl
theorem rw_0_689 : mm_code 0 689 = some (.goto 652, 3, 1341, 0, []) := rfl
theorem rw_0_692 : mm_code 0 692 = some (.aload_n 1, 1, 0, 0, []) := rfl
theorem rw_0_693 : mm_code 0 693 = some (.aload_n 0, 1, 0, 0, []) := rfl
theorem rw_0_694 : mm_code 0 694 = some (.iload 4, 2, 0, 0, []) := rfl
theorem rw_0_696 : mm_code 0 696 = some (.iconst 1, 1, 1, 0, []) := rfl
theorem rw_0_697 : mm_code 0 697 = some (.iadd, 1, 0, 0, []) := rfl
theorem rw_0_698 : mm_code 0 698 = some (.iaload, 1, 0, 0, []) := rfl
theorem rw_0_699 : mm_code 0 699 = some (.aload_n 0, 1, 0, 0, []) := rfl
theorem rw_0_700 : mm_code 0 700 = some (.iload 4, 2, 0, 0, []) := rfl
theorem rw_0_702 : mm_code 0 702 = some (.iconst 2, 1, 2, 0, []) := rfl
theorem rw_0_703 : mm_code 0 703 = some (.iadd, 1, 0, 0, []) := rfl
theorem rw_0_704 : mm_code 0 704 = some (.iaload, 1, 0, 0, []) := rfl
theorem rw_0_705 : mm_code 0 705 = some (.invokevirtual 84, 3, 122, 3, [31, 0]) := rfl
theorem rw_0_708 : mm_code 0 708 = some (.pop, 1, 0, 0, []) := rfl
theorem rw_0_709 : mm_code 0 709 = some (.aload_n 2, 1, 0, 0, []) := rfl
theorem rw_0_710 : mm_code 0 710 = some (.aload_n 0, 1, 0, 0, []) := rfl
theorem rw_0_711 : mm_code 0 711 = some (.iload 4, 2, 0, 0, []) := rfl
theorem rw_0_713 : mm_code 0 713 = some (.iconst 1, 1, 1, 0, []) := rfl
theorem rw_0_714 : mm_code 0 714 = some (.iadd, 1, 0, 0, []) := rfl
theorem rw_0_715 : mm_code 0 715 = some (.iaload, 1, 0, 0, []) := rfl
theorem rw_0_716 : mm_code 0 716 = some (.aload_n 0, 1, 0, 0, []) := rfl
theorem rw_0_717 : mm_code 0 717 = some (.iload 4, 2, 0, 0, []) := rfl
theorem rw_0_719 : mm_code 0 719 = some (.iconst 2, 1, 2, 0, []) := rfl
theorem rw_0_720 : mm_code 0 720 = some (.iadd, 1, 0, 0, []) := rfl
theorem rw_0_721 : mm_code 0 721 = some (.iaload, 1, 0, 0, []) := rfl
theorem rw_0_722 : mm_code 0 722 = some (.invokevirtual 87, 3, 198, 3, [32, 0]) := rfl
theorem rw_0_725 : mm_code 0 725 = some (.pop, 1, 0, 0, []) := rfl
theorem rw_0_726 : mm_code 0 726 = some (.goto 615, 3, 1341, 0, []) := rfl
theorem rw_0_729 : mm_code 0 729 = some (.aload_n 1, 1, 0, 0, []) := rfl
theorem rw_0_730 : mm_code 0 730 = some (.aload_n 0, 1, 0, 0, []) := rfl
theorem rw_0_731 : mm_code 0 731 = some (.iload 4, 2, 0, 0, []) := rfl
theorem rw_0_733 : mm_code 0 733 = some (.iconst 1, 1, 1, 0, []) := rfl
theorem rw_0_734 : mm_code 0 734 = some (.iadd, 1, 0, 0, []) := rfl
theorem rw_0_735 : mm_code 0 735 = some (.iaload, 1, 0, 0, []) := rfl
theorem rw_0_736 : mm_code 0 736 = some (.invokevirtual 88, 3, 123, 2, [33, 0]) := rfl
theorem rw_0_739 : mm_code 0 739 = some (.pop, 1, 0, 0, []) := rfl
theorem rw_0_740 : mm_code 0 740 = some (.aload_n 2, 1, 0, 0, []) := rfl
theorem rw_0_741 : mm_code 0 741 = some (.aload_n 0, 1, 0, 0, []) := rfl
theorem rw_0_742 : mm_code 0 742 = some (.iload 4, 2, 0, 0, []) := rfl
theorem rw_0_744 : mm_code 0 744 = some (.iconst 1, 1, 1, 0, []) := rfl
theorem rw_0_745 : mm_code 0 745 = some (.iadd, 1, 0, 0, []) := rfl
theorem rw_0_746 : mm_code 0 746 = some (.iaload, 1, 0, 0, []) := rfl
theorem rw_0_747 : mm_code 0 747 = some (.invokevirtual 91, 3, 199, 2, [34, 0]) := rfl
theorem rw_0_750 : mm_code 0 750 = some (.pop, 1, 0, 0, []) := rfl
theorem rw_0_751 : mm_code 0 751 = some (.goto 590, 3, 1341, 0, []) := rfl
theorem rw_0_754 : mm_code 0 754 = some (.aload_n 1, 1, 0, 0, []) := rfl
theorem rw_0_755 : mm_code 0 755 = some (.aload_n 0, 1, 0, 0, []) := rfl
theorem rw_0_756 : mm_code 0 756 = some (.iload 4, 2, 0, 0, []) := rfl
theorem rw_0_758 : mm_code 0 758 = some (.iconst 1, 1, 1, 0, []) := rfl
theorem rw_0_759 : mm_code 0 759 = some (.iadd, 1, 0, 0, []) := rfl
theorem rw_0_760 : mm_code 0 760 = some (.iaload, 1, 0, 0, []) := rfl
theorem rw_0_761 : mm_code 0 761 = some (.aload_n 0, 1, 0, 0, []) := rfl
theorem rw_0_762 : mm_code 0 762 = some (.iload 4, 2, 0, 0, []) := rfl
theorem rw_0_764 : mm_code 0 764 = some (.iconst 2, 1, 2, 0, []) := rfl
theorem rw_0_765 : mm_code 0 765 = some (.iadd, 1, 0, 0, []) := rfl
theorem rw_0_766 : mm_code 0 766 = some (.iaload, 1, 0, 0, []) := rfl
theorem rw_0_767 : mm_code 0 767 = some (.invokevirtual 92, 3, 124, 3, [35, 0]) := rfl
theorem rw_0_770 : mm_code 0 770 = some (.pop2, 1, 0, 0, []) := rfl
theorem rw_0_771 : mm_code 0 771 = some (.aload_n 2, 1, 0, 0, []) := rfl
theorem rw_0_772 : mm_code 0 772 = some (.aload_n 0, 1, 0, 0, []) := rfl
theorem rw_0_773 : mm_code 0 773 = some (.iload 4, 2, 0, 0, []) := rfl
theorem rw_0_775 : mm_code 0 775 = some (.iconst 1, 1, 1, 0, []) := rfl
theorem rw_0_776 : mm_code 0 776 = some (.iadd, 1, 0, 0, []) := rfl
theorem rw_0_777 : mm_code 0 777 = some (.iaload, 1, 0, 0, []) := rfl
theorem rw_0_778 : mm_code 0 778 = some (.aload_n 0, 1, 0, 0, []) := rfl
theorem rw_0_779 : mm_code 0 779 = some (.iload 4, 2, 0, 0, []) := rfl
theorem rw_0_781 : mm_code 0 781 = some (.iconst 2, 1, 2, 0, []) := rfl
theorem rw_0_782 : mm_code 0 782 = some (.iadd, 1, 0, 0, []) := rfl
theorem rw_0_783 : mm_code 0 783 = some (.iaload, 1, 0, 0, []) := rfl
theorem rw_0_784 : mm_code 0 784 = some (.invokevirtual 95, 3, 200, 3, [36, 0]) := rfl
theorem rw_0_787 : mm_code 0 787 = some (.pop2, 1, 0, 0, []) := rfl
theorem rw_0_788 : mm_code 0 788 = some (.goto 553, 3, 1341, 0, []) := rfl
theorem rw_0_791 : mm_code 0 791 = some (.aload_n 1, 1, 0, 0, []) := rfl
theorem rw_0_792 : mm_code 0 792 = some (.aload_n 0, 1, 0, 0, []) := rfl
theorem rw_0_793 : mm_code 0 793 = some (.iload 4, 2, 0, 0, []) := rfl
theorem rw_0_795 : mm_code 0 795 = some (.iconst 1, 1, 1, 0, []) := rfl
theorem rw_0_796 : mm_code 0 796 = some (.iadd, 1, 0, 0, []) := rfl
theorem rw_0_797 : mm_code 0 797 = some (.iaload, 1, 0, 0, []) := rfl
theorem rw_0_798 : mm_code 0 798 = some (.aload_n 0, 1, 0, 0, []) := rfl
theorem rw_0_799 : mm_code 0 799 = some (.iload 4, 2, 0, 0, []) := rfl
theorem rw_0_801 : mm_code 0 801 = some (.iconst 2, 1, 2, 0, []) := rfl
theorem rw_0_802 : mm_code 0 802 = some (.iadd, 1, 0, 0, []) := rfl
theorem rw_0_803 : mm_code 0 803 = some (.iaload, 1, 0, 0, []) := rfl
theorem rw_0_804 : mm_code 0 804 = some (.aload_n 0, 1, 0, 0, []) := rfl
theorem rw_0_805 : mm_code 0 805 = some (.iload 4, 2, 0, 0, []) := rfl
theorem rw_0_807 : mm_code 0 807 = some (.iconst 3, 1, 3, 0, []) := rfl
theorem rw_0_808 : mm_code 0 808 = some (.iadd, 1, 0, 0, []) := rfl
theorem rw_0_809 : mm_code 0 809 = some (.iaload, 1, 0, 0, []) := rfl
theorem rw_0_810 : mm_code 0 810 = some (.invokevirtual 96, 3, 125, 4, [37, 0]) := rfl
theorem rw_0_813 : mm_code 0 813 = some (.pop, 1, 0, 0, []) := rfl
theorem rw_0_814 : mm_code 0 814 = some (.aload_n 2, 1, 0, 0, []) := rfl
theorem rw_0_815 : mm_code 0 815 = some (.aload_n 0, 1, 0, 0, []) := rfl
theorem rw_0_816 : mm_code 0 816 = some (.iload 4, 2, 0, 0, []) := rfl
theorem rw_0_818 : mm_code 0 818 = some (.iconst 1, 1, 1, 0, []) := rfl
theorem rw_0_819 : mm_code 0 819 = some (.iadd, 1, 0, 0, []) := rfl
theorem rw_0_820 : mm_code 0 820 = some (.iaload, 1, 0, 0, []) := rfl
theorem rw_0_821 : mm_code 0 821 = some (.aload_n 0, 1, 0, 0, []) := rfl
theorem rw_0_822 : mm_code 0 822 = some (.iload 4, 2, 0, 0, []) := rfl
theorem rw_0_824 : mm_code 0 824 = some (.iconst 2, 1, 2, 0, []) := rfl
theorem rw_0_825 : mm_code 0 825 = some (.iadd, 1, 0, 0, []) := rfl
theorem rw_0_826 : mm_code 0 826 = some (.iaload, 1, 0, 0, []) := rfl
theorem rw_0_827 : mm_code 0 827 = some (.aload_n 0, 1, 0, 0, []) := rfl
theorem rw_0_828 : mm_code 0 828 = some (.iload 4, 2, 0, 0, []) := rfl
theorem rw_0_830 : mm_code 0 830 = some (.iconst 3, 1, 3, 0, []) := rfl
theorem rw_0_831 : mm_code 0 831 = some (.iadd, 1, 0, 0, []) := rfl
theorem rw_0_832 : mm_code 0 832 = some (.iaload, 1, 0, 0, []) := rfl
theorem rw_0_833 : mm_code 0 833 = some (.invokevirtual 99, 3, 202, 4, [38, 0]) := rfl
theorem rw_0_836 : mm_code 0 836 = some (.pop, 1, 0, 0, []) := rfl
theorem rw_0_837 : mm_code 0 837 = some (.goto 504, 3, 1341, 0, []) := rfl
theorem rw_0_840 : mm_code 0 840 = some (.aload_n 1, 1, 0, 0, []) := rfl
theorem rw_0_841 : mm_code 0 841 = some (.aload_n 0, 1, 0, 0, []) := rfl
theorem rw_0_842 : mm_code 0 842 = some (.iload 4, 2, 0, 0, []) := rfl
theorem rw_0_844 : mm_code 0 844 = some (.iconst 1, 1, 1, 0, []) := rfl
theorem rw_0_845 : mm_code 0 845 = some (.iadd, 1, 0, 0, []) := rfl
theorem rw_0_846 : mm_code 0 846 = some (.iaload, 1, 0, 0, []) := rfl
theorem rw_0_847 : mm_code 0 847 = some (.invokevirtual 100, 3, 126, 2, [39, 0]) := rfl
theorem rw_0_850 : mm_code 0 850 = some (.pop, 1, 0, 0, []) := rfl
theorem rw_0_851 : mm_code 0 851 = some (.aload_n 2, 1, 0, 0, []) := rfl
theorem rw_0_852 : mm_code 0 852 = some (.aload_n 0, 1, 0, 0, []) := rfl
theorem rw_0_853 : mm_code 0 853 = some (.iload 4, 2, 0, 0, []) := rfl
theorem rw_0_855 : mm_code 0 855 = some (.iconst 1, 1, 1, 0, []) := rfl
theorem rw_0_856 : mm_code 0 856 = some (.iadd, 1, 0, 0, []) := rfl
theorem rw_0_857 : mm_code 0 857 = some (.iaload, 1, 0, 0, []) := rfl
theorem rw_0_858 : mm_code 0 858 = some (.invokevirtual 104, 3, 203, 2, [40, 0]) := rfl
theorem rw_0_861 : mm_code 0 861 = some (.pop, 1, 0, 0, []) := rfl
theorem rw_0_862 : mm_code 0 862 = some (.goto 479, 3, 1341, 0, []) := rfl
theorem rw_0_865 : mm_code 0 865 = some (.aload_n 1, 1, 0, 0, []) := rfl
theorem rw_0_866 : mm_code 0 866 = some (.invokevirtual 105, 3, 127, 1, [41, 0]) := rfl
theorem rw_0_869 : mm_code 0 869 = some (.pop, 1, 0, 0, []) := rfl
theorem rw_0_870 : mm_code 0 870 = some (.aload_n 2, 1, 0, 0, []) := rfl
theorem rw_0_871 : mm_code 0 871 = some (.invokevirtual 108, 3, 204, 1, [42, 0]) := rfl
theorem rw_0_874 : mm_code 0 874 = some (.pop, 1, 0, 0, []) := rfl
theorem rw_0_875 : mm_code 0 875 = some (.goto 466, 3, 1341, 0, []) := rfl
theorem rw_0_878 : mm_code 0 878 = some (.aload_n 1, 1, 0, 0, []) := rfl
theorem rw_0_879 : mm_code 0 879 = some (.aload_n 0, 1, 0, 0, []) := rfl
theorem rw_0_880 : mm_code 0 880 = some (.iload 4, 2, 0, 0, []) := rfl
theorem rw_0_882 : mm_code 0 882 = some (.iconst 1, 1, 1, 0, []) := rfl
theorem rw_0_883 : mm_code 0 883 = some (.iadd, 1, 0, 0, []) := rfl
theorem rw_0_884 : mm_code 0 884 = some (.iaload, 1, 0, 0, []) := rfl
theorem rw_0_885 : mm_code 0 885 = some (.aload_n 0, 1, 0, 0, []) := rfl
theorem rw_0_886 : mm_code 0 886 = some (.iload 4, 2, 0, 0, []) := rfl
theorem rw_0_888 : mm_code 0 888 = some (.iconst 2, 1, 2, 0, []) := rfl
theorem rw_0_889 : mm_code 0 889 = some (.iadd, 1, 0, 0, []) := rfl
theorem rw_0_890 : mm_code 0 890 = some (.iaload, 1, 0, 0, []) := rfl
theorem rw_0_891 : mm_code 0 891 = some (.invokevirtual 109, 3, 128, 3, [43, 0]) := rfl
theorem rw_0_894 : mm_code 0 894 = some (.pop, 1, 0, 0, []) := rfl
theorem rw_0_895 : mm_code 0 895 = some (.aload_n 2, 1, 0, 0, []) := rfl
theorem rw_0_896 : mm_code 0 896 = some (.aload_n 0, 1, 0, 0, []) := rfl
theorem rw_0_897 : mm_code 0 897 = some (.iload 4, 2, 0, 0, []) := rfl
theorem rw_0_899 : mm_code 0 899 = some (.iconst 1, 1, 1, 0, []) := rfl
theorem rw_0_900 : mm_code 0 900 = some (.iadd, 1, 0, 0, []) := rfl
theorem rw_0_901 : mm_code 0 901 = some (.iaload, 1, 0, 0, []) := rfl
theorem rw_0_902 : mm_code 0 902 = some (.aload_n 0, 1, 0, 0, []) := rfl
theorem rw_0_903 : mm_code 0 903 = some (.iload 4, 2, 0, 0, []) := rfl
theorem rw_0_905 : mm_code 0 905 = some (.iconst 2, 1, 2, 0, []) := rfl
theorem rw_0_906 : mm_code 0 906 = some (.iadd, 1, 0, 0, []) := rfl
theorem rw_0_907 : mm_code 0 907 = some (.iaload, 1, 0, 0, []) := rfl
theorem rw_0_908 : mm_code 0 908 = some (.invokevirtual 112, 3, 206, 3, [44, 0]) := rfl
theorem rw_0_911 : mm_code 0 911 = some (.pop, 1, 0, 0, []) := rfl
theorem rw_0_912 : mm_code 0 912 = some (.goto 429, 3, 1341, 0, []) := rfl
theorem rw_0_915 : mm_code 0 915 = some (.aload_n 1, 1, 0, 0, []) := rfl
theorem rw_0_916 : mm_code 0 916 = some (.aload_n 0, 1, 0, 0, []) := rfl
theorem rw_0_917 : mm_code 0 917 = some (.iload 4, 2, 0, 0, []) := rfl
theorem rw_0_919 : mm_code 0 919 = some (.iconst 1, 1, 1, 0, []) := rfl
theorem rw_0_920 : mm_code 0 920 = some (.iadd, 1, 0, 0, []) := rfl
theorem rw_0_921 : mm_code 0 921 = some (.iaload, 1, 0, 0, []) := rfl
theorem rw_0_922 : mm_code 0 922 = some (.aload_n 0, 1, 0, 0, []) := rfl
theorem rw_0_923 : mm_code 0 923 = some (.iload 4, 2, 0, 0, []) := rfl
theorem rw_0_925 : mm_code 0 925 = some (.iconst 2, 1, 2, 0, []) := rfl
theorem rw_0_926 : mm_code 0 926 = some (.iadd, 1, 0, 0, []) := rfl
theorem rw_0_927 : mm_code 0 927 = some (.iaload, 1, 0, 0, []) := rfl
theorem rw_0_928 : mm_code 0 928 = some (.i2l, 1, 0, 0, []) := rfl
theorem rw_0_929 : mm_code 0 929 = some (.bipush 32, 2, 32, 0, []) := rfl
theorem rw_0_931 : mm_code 0 931 = some (.lshl, 1, 0, 0, []) := rfl
theorem rw_0_932 : mm_code 0 932 = some (.aload_n 0, 1, 0, 0, []) := rfl
theorem rw_0_933 : mm_code 0 933 = some (.iload 4, 2, 0, 0, []) := rfl
theorem rw_0_935 : mm_code 0 935 = some (.iconst 3, 1, 3, 0, []) := rfl
theorem rw_0_936 : mm_code 0 936 = some (.iadd, 1, 0, 0, []) := rfl
theorem rw_0_937 : mm_code 0 937 = some (.iaload, 1, 0, 0, []) := rfl
theorem rw_0_938 : mm_code 0 938 = some (.i2l, 1, 0, 0, []) := rfl
theorem rw_0_939 : mm_code 0 939 = some (.ldc2_w 113, 3, 4294967295, 0, [45]) := rfl
theorem rw_0_942 : mm_code 0 942 = some (.land, 1, 0, 0, []) := rfl
theorem rw_0_943 : mm_code 0 943 = some (.lor, 1, 0, 0, []) := rfl
theorem rw_0_944 : mm_code 0 944 = some (.invokevirtual 115, 3, 129, 3, [46, 0]) := rfl
theorem rw_0_947 : mm_code 0 947 = some (.pop, 1, 0, 0, []) := rfl
theorem rw_0_948 : mm_code 0 948 = some (.aload_n 2, 1, 0, 0, []) := rfl
theorem rw_0_949 : mm_code 0 949 = some (.aload_n 0, 1, 0, 0, []) := rfl
theorem rw_0_950 : mm_code 0 950 = some (.iload 4, 2, 0, 0, []) := rfl
theorem rw_0_952 : mm_code 0 952 = some (.iconst 1, 1, 1, 0, []) := rfl
theorem rw_0_953 : mm_code 0 953 = some (.iadd, 1, 0, 0, []) := rfl
theorem rw_0_954 : mm_code 0 954 = some (.iaload, 1, 0, 0, []) := rfl
theorem rw_0_955 : mm_code 0 955 = some (.aload_n 0, 1, 0, 0, []) := rfl
theorem rw_0_956 : mm_code 0 956 = some (.iload 4, 2, 0, 0, []) := rfl
theorem rw_0_958 : mm_code 0 958 = some (.iconst 2, 1, 2, 0, []) := rfl
theorem rw_0_959 : mm_code 0 959 = some (.iadd, 1, 0, 0, []) := rfl
theorem rw_0_960 : mm_code 0 960 = some (.iaload, 1, 0, 0, []) := rfl
theorem rw_0_961 : mm_code 0 961 = some (.i2l, 1, 0, 0, []) := rfl
theorem rw_0_962 : mm_code 0 962 = some (.bipush 32, 2, 32, 0, []) := rfl
theorem rw_0_964 : mm_code 0 964 = some (.lshl, 1, 0, 0, []) := rfl
theorem rw_0_965 : mm_code 0 965 = some (.aload_n 0, 1, 0, 0, []) := rfl
theorem rw_0_966 : mm_code 0 966 = some (.iload 4, 2, 0, 0, []) := rfl
theorem rw_0_968 : mm_code 0 968 = some (.iconst 3, 1, 3, 0, []) := rfl
theorem rw_0_969 : mm_code 0 969 = some (.iadd, 1, 0, 0, []) := rfl
theorem rw_0_970 : mm_code 0 970 = some (.iaload, 1, 0, 0, []) := rfl
theorem rw_0_971 : mm_code 0 971 = some (.i2l, 1, 0, 0, []) := rfl
theorem rw_0_972 : mm_code 0 972 = some (.ldc2_w 113, 3, 4294967295, 0, [45]) := rfl
theorem rw_0_975 : mm_code 0 975 = some (.land, 1, 0, 0, []) := rfl
theorem rw_0_976 : mm_code 0 976 = some (.lor, 1, 0, 0, []) := rfl
theorem rw_0_977 : mm_code 0 977 = some (.invokevirtual 119, 3, 208, 3, [47, 0]) := rfl
theorem rw_0_980 : mm_code 0 980 = some (.pop, 1, 0, 0, []) := rfl
theorem rw_0_981 : mm_code 0 981 = some (.goto 360, 3, 1341, 0, []) := rfl
theorem rw_0_984 : mm_code 0 984 = some (.aload_n 1, 1, 0, 0, []) := rfl
theorem rw_0_985 : mm_code 0 985 = some (.invokevirtual 120, 3, 130, 1, [48, 0]) := rfl
theorem rw_0_988 : mm_code 0 988 = some (.pop, 1, 0, 0, []) := rfl
theorem rw_0_989 : mm_code 0 989 = some (.aload_n 2, 1, 0, 0, []) := rfl
theorem rw_0_990 : mm_code 0 990 = some (.invokevirtual 123, 3, 209, 1, [49, 0]) := rfl
theorem rw_0_993 : mm_code 0 993 = some (.pop, 1, 0, 0, []) := rfl
theorem rw_0_994 : mm_code 0 994 = some (.goto 347, 3, 1341, 0, []) := rfl
theorem rw_0_997 : mm_code 0 997 = some (.aload_n 1, 1, 0, 0, []) := rfl
theorem rw_0_998 : mm_code 0 998 = some (.aload_n 0, 1, 0, 0, []) := rfl
theorem rw_0_999 : mm_code 0 999 = some (.iload 4, 2, 0, 0, []) := rfl
theorem rw_0_1001 : mm_code 0 1001 = some (.iconst 1, 1, 1, 0, []) := rfl
theorem rw_0_1002 : mm_code 0 1002 = some (.iadd, 1, 0, 0, []) := rfl
theorem rw_0_1003 : mm_code 0 1003 = some (.iaload, 1, 0, 0, []) := rfl
theorem rw_0_1004 : mm_code 0 1004 = some (.aload_n 0, 1, 0, 0, []) := rfl
theorem rw_0_1005 : mm_code 0 1005 = some (.iload 4, 2, 0, 0, []) := rfl
theorem rw_0_1007 : mm_code 0 1007 = some (.iconst 2, 1, 2, 0, []) := rfl
theorem rw_0_1008 : mm_code 0 1008 = some (.iadd, 1, 0, 0, []) := rfl
theorem rw_0_1009 : mm_code 0 1009 = some (.iaload, 1, 0, 0, []) := rfl
theorem rw_0_1010 : mm_code 0 1010 = some (.invokevirtual 124, 3, 131, 3, [50, 0]) := rfl
theorem rw_0_1013 : mm_code 0 1013 = some (.pop, 1, 0, 0, []) := rfl
theorem rw_0_1014 : mm_code 0 1014 = some (.aload_n 2, 1, 0, 0, []) := rfl
theorem rw_0_1015 : mm_code 0 1015 = some (.aload_n 0, 1, 0, 0, []) := rfl
theorem rw_0_1016 : mm_code 0 1016 = some (.iload 4, 2, 0, 0, []) := rfl
theorem rw_0_1018 : mm_code 0 1018 = some (.iconst 1, 1, 1, 0, []) := rfl
theorem rw_0_1019 : mm_code 0 1019 = some (.iadd, 1, 0, 0, []) := rfl
theorem rw_0_1020 : mm_code 0 1020 = some (.iaload, 1, 0, 0, []) := rfl
theorem rw_0_1021 : mm_code 0 1021 = some (.aload_n 0, 1, 0, 0, []) := rfl
theorem rw_0_1022 : mm_code 0 1022 = some (.iload 4, 2, 0, 0, []) := rfl
theorem rw_0_1024 : mm_code 0 1024 = some (.iconst 2, 1, 2, 0, []) := rfl
theorem rw_0_1025 : mm_code 0 1025 = some (.iadd, 1, 0, 0, []) := rfl
theorem rw_0_1026 : mm_code 0 1026 = some (.iaload, 1, 0, 0, []) := rfl
theorem rw_0_1027 : mm_code 0 1027 = some (.invokevirtual 127, 3, 229, 3, [51, 0]) := rfl
theorem rw_0_1030 : mm_code 0 1030 = some (.pop, 1, 0, 0, []) := rfl
theorem rw_0_1031 : mm_code 0 1031 = some (.goto 310, 3, 1341, 0, []) := rfl
theorem rw_0_1034 : mm_code 0 1034 = some (.aload_n 1, 1, 0, 0, []) := rfl
theorem rw_0_1035 : mm_code 0 1035 = some (.aload_n 0, 1, 0, 0, []) := rfl
theorem rw_0_1036 : mm_code 0 1036 = some (.iload 4, 2, 0, 0, []) := rfl
theorem rw_0_1038 : mm_code 0 1038 = some (.iconst 1, 1, 1, 0, []) := rfl
theorem rw_0_1039 : mm_code 0 1039 = some (.iadd, 1, 0, 0, []) := rfl
theorem rw_0_1040 : mm_code 0 1040 = some (.iaload, 1, 0, 0, []) := rfl
theorem rw_0_1041 : mm_code 0 1041 = some (.aload_n 0, 1, 0, 0, []) := rfl
theorem rw_0_1042 : mm_code 0 1042 = some (.iload 4, 2, 0, 0, []) := rfl
theorem rw_0_1044 : mm_code 0 1044 = some (.iconst 2, 1, 2, 0, []) := rfl
theorem rw_0_1045 : mm_code 0 1045 = some (.iadd, 1, 0, 0, []) := rfl
theorem rw_0_1046 : mm_code 0 1046 = some (.iaload, 1, 0, 0, []) := rfl
theorem rw_0_1047 : mm_code 0 1047 = some (.aload_n 0, 1, 0, 0, []) := rfl
theorem rw_0_1048 : mm_code 0 1048 = some (.iload 4, 2, 0, 0, []) := rfl
theorem rw_0_1050 : mm_code 0 1050 = some (.iconst 3, 1, 3, 0, []) := rfl
theorem rw_0_1051 : mm_code 0 1051 = some (.iadd, 1, 0, 0, []) := rfl
theorem rw_0_1052 : mm_code 0 1052 = some (.iaload, 1, 0, 0, []) := rfl
theorem rw_0_1053 : mm_code 0 1053 = some (.invokevirtual 128, 3, 132, 4, [52, 0]) := rfl
theorem rw_0_1056 : mm_code 0 1056 = some (.pop2, 1, 0, 0, []) := rfl
theorem rw_0_1057 : mm_code 0 1057 = some (.aload_n 2, 1, 0, 0, []) := rfl
theorem rw_0_1058 : mm_code 0 1058 = some (.aload_n 0, 1, 0, 0, []) := rfl
theorem rw_0_1059 : mm_code 0 1059 = some (.iload 4, 2, 0, 0, []) := rfl
theorem rw_0_1061 : mm_code 0 1061 = some (.iconst 1, 1, 1, 0, []) := rfl
theorem rw_0_1062 : mm_code 0 1062 = some (.iadd, 1, 0, 0, []) := rfl
theorem rw_0_1063 : mm_code 0 1063 = some (.iaload, 1, 0, 0, []) := rfl
theorem rw_0_1064 : mm_code 0 1064 = some (.aload_n 0, 1, 0, 0, []) := rfl
theorem rw_0_1065 : mm_code 0 1065 = some (.iload 4, 2, 0, 0, []) := rfl
theorem rw_0_1067 : mm_code 0 1067 = some (.iconst 2, 1, 2, 0, []) := rfl
theorem rw_0_1068 : mm_code 0 1068 = some (.iadd, 1, 0, 0, []) := rfl
theorem rw_0_1069 : mm_code 0 1069 = some (.iaload, 1, 0, 0, []) := rfl
theorem rw_0_1070 : mm_code 0 1070 = some (.aload_n 0, 1, 0, 0, []) := rfl
theorem rw_0_1071 : mm_code 0 1071 = some (.iload 4, 2, 0, 0, []) := rfl
theorem rw_0_1073 : mm_code 0 1073 = some (.iconst 3, 1, 3, 0, []) := rfl
theorem rw_0_1074 : mm_code 0 1074 = some (.iadd, 1, 0, 0, []) := rfl
theorem rw_0_1075 : mm_code 0 1075 = some (.iaload, 1, 0, 0, []) := rfl
theorem rw_0_1076 : mm_code 0 1076 = some (.invokevirtual 132, 3, 233, 4, [53, 0]) := rfl
theorem rw_0_1079 : mm_code 0 1079 = some (.pop2, 1, 0, 0, []) := rfl
theorem rw_0_1080 : mm_code 0 1080 = some (.goto 261, 3, 1341, 0, []) := rfl
theorem rw_0_1083 : mm_code 0 1083 = some (.aload_n 1, 1, 0, 0, []) := rfl
theorem rw_0_1084 : mm_code 0 1084 = some (.aload_n 0, 1, 0, 0, []) := rfl
theorem rw_0_1085 : mm_code 0 1085 = some (.iload 4, 2, 0, 0, []) := rfl
theorem rw_0_1087 : mm_code 0 1087 = some (.iconst 1, 1, 1, 0, []) := rfl
theorem rw_0_1088 : mm_code 0 1088 = some (.iadd, 1, 0, 0, []) := rfl
theorem rw_0_1089 : mm_code 0 1089 = some (.iaload, 1, 0, 0, []) := rfl
theorem rw_0_1090 : mm_code 0 1090 = some (.aload_n 0, 1, 0, 0, []) := rfl
theorem rw_0_1091 : mm_code 0 1091 = some (.iload 4, 2, 0, 0, []) := rfl
theorem rw_0_1093 : mm_code 0 1093 = some (.iconst 2, 1, 2, 0, []) := rfl
theorem rw_0_1094 : mm_code 0 1094 = some (.iadd, 1, 0, 0, []) := rfl
theorem rw_0_1095 : mm_code 0 1095 = some (.iaload, 1, 0, 0, []) := rfl
theorem rw_0_1096 : mm_code 0 1096 = some (.invokevirtual 133, 3, 133, 3, [54, 0]) := rfl
theorem rw_0_1099 : mm_code 0 1099 = some (.pop, 1, 0, 0, []) := rfl
theorem rw_0_1100 : mm_code 0 1100 = some (.aload_n 2, 1, 0, 0, []) := rfl
theorem rw_0_1101 : mm_code 0 1101 = some (.aload_n 0, 1, 0, 0, []) := rfl
theorem rw_0_1102 : mm_code 0 1102 = some (.iload 4, 2, 0, 0, []) := rfl
theorem rw_0_1104 : mm_code 0 1104 = some (.iconst 1, 1, 1, 0, []) := rfl
theorem rw_0_1105 : mm_code 0 1105 = some (.iadd, 1, 0, 0, []) := rfl
theorem rw_0_1106 : mm_code 0 1106 = some (.iaload, 1, 0, 0, []) := rfl
theorem rw_0_1107 : mm_code 0 1107 = some (.aload_n 0, 1, 0, 0, []) := rfl
theorem rw_0_1108 : mm_code 0 1108 = some (.iload 4, 2, 0, 0, []) := rfl
theorem rw_0_1110 : mm_code 0 1110 = some (.iconst 2, 1, 2, 0, []) := rfl
theorem rw_0_1111 : mm_code 0 1111 = some (.iadd, 1, 0, 0, []) := rfl
theorem rw_0_1112 : mm_code 0 1112 = some (.iaload, 1, 0, 0, []) := rfl
theorem rw_0_1113 : mm_code 0 1113 = some (.invokevirtual 136, 3, 235, 3, [55, 0]) := rfl
theorem rw_0_1116 : mm_code 0 1116 = some (.pop, 1, 0, 0, []) := rfl
theorem rw_0_1117 : mm_code 0 1117 = some (.goto 224, 3, 1341, 0, []) := rfl
theorem rw_0_1120 : mm_code 0 1120 = some (.aload_n 1, 1, 0, 0, []) := rfl
theorem rw_0_1121 : mm_code 0 1121 = some (.aload_n 0, 1, 0, 0, []) := rfl
theorem rw_0_1122 : mm_code 0 1122 = some (.iload 4, 2, 0, 0, []) := rfl
theorem rw_0_1124 : mm_code 0 1124 = some (.iconst 1, 1, 1, 0, []) := rfl
theorem rw_0_1125 : mm_code 0 1125 = some (.iadd, 1, 0, 0, []) := rfl
theorem rw_0_1126 : mm_code 0 1126 = some (.iaload, 1, 0, 0, []) := rfl
theorem rw_0_1127 : mm_code 0 1127 = some (.aload_n 0, 1, 0, 0, []) := rfl
theorem rw_0_1128 : mm_code 0 1128 = some (.iload 4, 2, 0, 0, []) := rfl
theorem rw_0_1130 : mm_code 0 1130 = some (.iconst 2, 1, 2, 0, []) := rfl
theorem rw_0_1131 : mm_code 0 1131 = some (.iadd, 1, 0, 0, []) := rfl
theorem rw_0_1132 : mm_code 0 1132 = some (.iaload, 1, 0, 0, []) := rfl
theorem rw_0_1133 : mm_code 0 1133 = some (.invokevirtual 137, 3, 134, 3, [56, 0]) := rfl
theorem rw_0_1136 : mm_code 0 1136 = some (.pop, 1, 0, 0, []) := rfl
theorem rw_0_1137 : mm_code 0 1137 = some (.aload_n 2, 1, 0, 0, []) := rfl
theorem rw_0_1138 : mm_code 0 1138 = some (.aload_n 0, 1, 0, 0, []) := rfl
theorem rw_0_1139 : mm_code 0 1139 = some (.iload 4, 2, 0, 0, []) := rfl
theorem rw_0_1141 : mm_code 0 1141 = some (.iconst 1, 1, 1, 0, []) := rfl
theorem rw_0_1142 : mm_code 0 1142 = some (.iadd, 1, 0, 0, []) := rfl
theorem rw_0_1143 : mm_code 0 1143 = some (.iaload, 1, 0, 0, []) := rfl
theorem rw_0_1144 : mm_code 0 1144 = some (.aload_n 0, 1, 0, 0, []) := rfl
theorem rw_0_1145 : mm_code 0 1145 = some (.iload 4, 2, 0, 0, []) := rfl
theorem rw_0_1147 : mm_code 0 1147 = some (.iconst 2, 1, 2, 0, []) := rfl
theorem rw_0_1148 : mm_code 0 1148 = some (.iadd, 1, 0, 0, []) := rfl
theorem rw_0_1149 : mm_code 0 1149 = some (.iaload, 1, 0, 0, []) := rfl
theorem rw_0_1150 : mm_code 0 1150 = some (.invokevirtual 140, 3, 237, 3, [57, 0]) := rfl
theorem rw_0_1153 : mm_code 0 1153 = some (.pop, 1, 0, 0, []) := rfl
theorem rw_0_1154 : mm_code 0 1154 = some (.goto 187, 3, 1341, 0, []) := rfl
theorem rw_0_1157 : mm_code 0 1157 = some (.aload_n 1, 1, 0, 0, []) := rfl
theorem rw_0_1158 : mm_code 0 1158 = some (.aload_n 0, 1, 0, 0, []) := rfl
theorem rw_0_1159 : mm_code 0 1159 = some (.iload 4, 2, 0, 0, []) := rfl
theorem rw_0_1161 : mm_code 0 1161 = some (.iconst 1, 1, 1, 0, []) := rfl
theorem rw_0_1162 : mm_code 0 1162 = some (.iadd, 1, 0, 0, []) := rfl
theorem rw_0_1163 : mm_code 0 1163 = some (.iaload, 1, 0, 0, []) := rfl
theorem rw_0_1164 : mm_code 0 1164 = some (.aload_n 0, 1, 0, 0, []) := rfl
theorem rw_0_1165 : mm_code 0 1165 = some (.iload 4, 2, 0, 0, []) := rfl
theorem rw_0_1167 : mm_code 0 1167 = some (.iconst 2, 1, 2, 0, []) := rfl
theorem rw_0_1168 : mm_code 0 1168 = some (.iadd, 1, 0, 0, []) := rfl
theorem rw_0_1169 : mm_code 0 1169 = some (.iaload, 1, 0, 0, []) := rfl
theorem rw_0_1170 : mm_code 0 1170 = some (.aload_n 0, 1, 0, 0, []) := rfl
theorem rw_0_1171 : mm_code 0 1171 = some (.iload 4, 2, 0, 0, []) := rfl
theorem rw_0_1173 : mm_code 0 1173 = some (.iconst 3, 1, 3, 0, []) := rfl
theorem rw_0_1174 : mm_code 0 1174 = some (.iadd, 1, 0, 0, []) := rfl
theorem rw_0_1175 : mm_code 0 1175 = some (.iaload, 1, 0, 0, []) := rfl
theorem rw_0_1176 : mm_code 0 1176 = some (.aload_n 0, 1, 0, 0, []) := rfl
theorem rw_0_1177 : mm_code 0 1177 = some (.iload 4, 2, 0, 0, []) := rfl
theorem rw_0_1179 : mm_code 0 1179 = some (.iconst 4, 1, 4, 0, []) := rfl
theorem rw_0_1180 : mm_code 0 1180 = some (.iadd, 1, 0, 0, []) := rfl
theorem rw_0_1181 : mm_code 0 1181 = some (.iaload, 1, 0, 0, []) := rfl
theorem rw_0_1182 : mm_code 0 1182 = some (.aload_n 0, 1, 0, 0, []) := rfl
theorem rw_0_1183 : mm_code 0 1183 = some (.iload 4, 2, 0, 0, []) := rfl
theorem rw_0_1185 : mm_code 0 1185 = some (.iconst 5, 1, 5, 0, []) := rfl
theorem rw_0_1186 : mm_code 0 1186 = some (.iadd, 1, 0, 0, []) := rfl
theorem rw_0_1187 : mm_code 0 1187 = some (.iaload, 1, 0, 0, []) := rfl
theorem rw_0_1188 : mm_code 0 1188 = some (.invokevirtual 141, 3, 135, 6, [58, 0]) := rfl
theorem rw_0_1191 : mm_code 0 1191 = some (.pop, 1, 0, 0, []) := rfl
theorem rw_0_1192 : mm_code 0 1192 = some (.aload_n 2, 1, 0, 0, []) := rfl
theorem rw_0_1193 : mm_code 0 1193 = some (.aload_n 0, 1, 0, 0, []) := rfl
theorem rw_0_1194 : mm_code 0 1194 = some (.iload 4, 2, 0, 0, []) := rfl
theorem rw_0_1196 : mm_code 0 1196 = some (.iconst 1, 1, 1, 0, []) := rfl
theorem rw_0_1197 : mm_code 0 1197 = some (.iadd, 1, 0, 0, []) := rfl
theorem rw_0_1198 : mm_code 0 1198 = some (.iaload, 1, 0, 0, []) := rfl
theorem rw_0_1199 : mm_code 0 1199 = some (.aload_n 0, 1, 0, 0, []) := rfl
theorem rw_0_1200 : mm_code 0 1200 = some (.iload 4, 2, 0, 0, []) := rfl
theorem rw_0_1202 : mm_code 0 1202 = some (.iconst 2, 1, 2, 0, []) := rfl
theorem rw_0_1203 : mm_code 0 1203 = some (.iadd, 1, 0, 0, []) := rfl
theorem rw_0_1204 : mm_code 0 1204 = some (.iaload, 1, 0, 0, []) := rfl
theorem rw_0_1205 : mm_code 0 1205 = some (.aload_n 0, 1, 0, 0, []) := rfl
theorem rw_0_1206 : mm_code 0 1206 = some (.iload 4, 2, 0, 0, []) := rfl
theorem rw_0_1208 : mm_code 0 1208 = some (.iconst 3, 1, 3, 0, []) := rfl
theorem rw_0_1209 : mm_code 0 1209 = some (.iadd, 1, 0, 0, []) := rfl
theorem rw_0_1210 : mm_code 0 1210 = some (.iaload, 1, 0, 0, []) := rfl
theorem rw_0_1211 : mm_code 0 1211 = some (.aload_n 0, 1, 0, 0, []) := rfl
theorem rw_0_1212 : mm_code 0 1212 = some (.iload 4, 2, 0, 0, []) := rfl
theorem rw_0_1214 : mm_code 0 1214 = some (.iconst 4, 1, 4, 0, []) := rfl
theorem rw_0_1215 : mm_code 0 1215 = some (.iadd, 1, 0, 0, []) := rfl
theorem rw_0_1216 : mm_code 0 1216 = some (.iaload, 1, 0, 0, []) := rfl
theorem rw_0_1217 : mm_code 0 1217 = some (.aload_n 0, 1, 0, 0, []) := rfl
theorem rw_0_1218 : mm_code 0 1218 = some (.iload 4, 2, 0, 0, []) := rfl
theorem rw_0_1220 : mm_code 0 1220 = some (.iconst 5, 1, 5, 0, []) := rfl
theorem rw_0_1221 : mm_code 0 1221 = some (.iadd, 1, 0, 0, []) := rfl
theorem rw_0_1222 : mm_code 0 1222 = some (.iaload, 1, 0, 0, []) := rfl
theorem rw_0_1223 : mm_code 0 1223 = some (.invokevirtual 144, 3, 238, 6, [59, 0]) := rfl
theorem rw_0_1226 : mm_code 0 1226 = some (.pop, 1, 0, 0, []) := rfl
theorem rw_0_1227 : mm_code 0 1227 = some (.goto 114, 3, 1341, 0, []) := rfl
theorem rw_0_1230 : mm_code 0 1230 = some (.aload_n 1, 1, 0, 0, []) := rfl
theorem rw_0_1231 : mm_code 0 1231 = some (.aload_n 0, 1, 0, 0, []) := rfl
theorem rw_0_1232 : mm_code 0 1232 = some (.iload 4, 2, 0, 0, []) := rfl
theorem rw_0_1234 : mm_code 0 1234 = some (.iconst 1, 1, 1, 0, []) := rfl
theorem rw_0_1235 : mm_code 0 1235 = some (.iadd, 1, 0, 0, []) := rfl
theorem rw_0_1236 : mm_code 0 1236 = some (.iaload, 1, 0, 0, []) := rfl
theorem rw_0_1237 : mm_code 0 1237 = some (.aload_n 0, 1, 0, 0, []) := rfl
theorem rw_0_1238 : mm_code 0 1238 = some (.iload 4, 2, 0, 0, []) := rfl
theorem rw_0_1240 : mm_code 0 1240 = some (.iconst 2, 1, 2, 0, []) := rfl
theorem rw_0_1241 : mm_code 0 1241 = some (.iadd, 1, 0, 0, []) := rfl
theorem rw_0_1242 : mm_code 0 1242 = some (.iaload, 1, 0, 0, []) := rfl
theorem rw_0_1243 : mm_code 0 1243 = some (.invokevirtual 145, 3, 136, 3, [60, 0]) := rfl
theorem rw_0_1246 : mm_code 0 1246 = some (.pop, 1, 0, 0, []) := rfl
theorem rw_0_1247 : mm_code 0 1247 = some (.aload_n 2, 1, 0, 0, []) := rfl
theorem rw_0_1248 : mm_code 0 1248 = some (.aload_n 0, 1, 0, 0, []) := rfl
theorem rw_0_1249 : mm_code 0 1249 = some (.iload 4, 2, 0, 0, []) := rfl
theorem rw_0_1251 : mm_code 0 1251 = some (.iconst 1, 1, 1, 0, []) := rfl
theorem rw_0_1252 : mm_code 0 1252 = some (.iadd, 1, 0, 0, []) := rfl
theorem rw_0_1253 : mm_code 0 1253 = some (.iaload, 1, 0, 0, []) := rfl
theorem rw_0_1254 : mm_code 0 1254 = some (.aload_n 0, 1, 0, 0, []) := rfl
theorem rw_0_1255 : mm_code 0 1255 = some (.iload 4, 2, 0, 0, []) := rfl
theorem rw_0_1257 : mm_code 0 1257 = some (.iconst 2, 1, 2, 0, []) := rfl
theorem rw_0_1258 : mm_code 0 1258 = some (.iadd, 1, 0, 0, []) := rfl
theorem rw_0_1259 : mm_code 0 1259 = some (.iaload, 1, 0, 0, []) := rfl
theorem rw_0_1260 : mm_code 0 1260 = some (.invokevirtual 148, 3, 242, 3, [61, 0]) := rfl
theorem rw_0_1263 : mm_code 0 1263 = some (.pop, 1, 0, 0, []) := rfl
theorem rw_0_1264 : mm_code 0 1264 = some (.goto 77, 3, 1341, 0, []) := rfl
theorem rw_0_1267 : mm_code 0 1267 = some (.aload_n 1, 1, 0, 0, []) := rfl
theorem rw_0_1268 : mm_code 0 1268 = some (.aload_n 0, 1, 0, 0, []) := rfl
theorem rw_0_1269 : mm_code 0 1269 = some (.iload 4, 2, 0, 0, []) := rfl
theorem rw_0_1271 : mm_code 0 1271 = some (.iconst 1, 1, 1, 0, []) := rfl
theorem rw_0_1272 : mm_code 0 1272 = some (.iadd, 1, 0, 0, []) := rfl
theorem rw_0_1273 : mm_code 0 1273 = some (.iaload, 1, 0, 0, []) := rfl
theorem rw_0_1274 : mm_code 0 1274 = some (.aload_n 0, 1, 0, 0, []) := rfl
theorem rw_0_1275 : mm_code 0 1275 = some (.iload 4, 2, 0, 0, []) := rfl
theorem rw_0_1277 : mm_code 0 1277 = some (.iconst 2, 1, 2, 0, []) := rfl
theorem rw_0_1278 : mm_code 0 1278 = some (.iadd, 1, 0, 0, []) := rfl
theorem rw_0_1279 : mm_code 0 1279 = some (.iaload, 1, 0, 0, []) := rfl
theorem rw_0_1280 : mm_code 0 1280 = some (.aload_n 0, 1, 0, 0, []) := rfl
theorem rw_0_1281 : mm_code 0 1281 = some (.iload 4, 2, 0, 0, []) := rfl
theorem rw_0_1283 : mm_code 0 1283 = some (.iconst 3, 1, 3, 0, []) := rfl
theorem rw_0_1284 : mm_code 0 1284 = some (.iadd, 1, 0, 0, []) := rfl
theorem rw_0_1285 : mm_code 0 1285 = some (.iaload, 1, 0, 0, []) := rfl
theorem rw_0_1286 : mm_code 0 1286 = some (.invokevirtual 149, 3, 137, 4, [62, 0]) := rfl
theorem rw_0_1289 : mm_code 0 1289 = some (.pop, 1, 0, 0, []) := rfl
theorem rw_0_1290 : mm_code 0 1290 = some (.aload_n 2, 1, 0, 0, []) := rfl
theorem rw_0_1291 : mm_code 0 1291 = some (.aload_n 0, 1, 0, 0, []) := rfl
theorem rw_0_1292 : mm_code 0 1292 = some (.iload 4, 2, 0, 0, []) := rfl
theorem rw_0_1294 : mm_code 0 1294 = some (.iconst 1, 1, 1, 0, []) := rfl
theorem rw_0_1295 : mm_code 0 1295 = some (.iadd, 1, 0, 0, []) := rfl
theorem rw_0_1296 : mm_code 0 1296 = some (.iaload, 1, 0, 0, []) := rfl
theorem rw_0_1297 : mm_code 0 1297 = some (.aload_n 0, 1, 0, 0, []) := rfl
theorem rw_0_1298 : mm_code 0 1298 = some (.iload 4, 2, 0, 0, []) := rfl
theorem rw_0_1300 : mm_code 0 1300 = some (.iconst 2, 1, 2, 0, []) := rfl
theorem rw_0_1301 : mm_code 0 1301 = some (.iadd, 1, 0, 0, []) := rfl
theorem rw_0_1302 : mm_code 0 1302 = some (.iaload, 1, 0, 0, []) := rfl
theorem rw_0_1303 : mm_code 0 1303 = some (.aload_n 0, 1, 0, 0, []) := rfl
theorem rw_0_1304 : mm_code 0 1304 = some (.iload 4, 2, 0, 0, []) := rfl
theorem rw_0_1306 : mm_code 0 1306 = some (.iconst 3, 1, 3, 0, []) := rfl
theorem rw_0_1307 : mm_code 0 1307 = some (.iadd, 1, 0, 0, []) := rfl
theorem rw_0_1308 : mm_code 0 1308 = some (.iaload, 1, 0, 0, []) := rfl
theorem rw_0_1309 : mm_code 0 1309 = some (.invokevirtual 152, 3, 245, 4, [63, 0]) := rfl
theorem rw_0_1312 : mm_code 0 1312 = some (.pop, 1, 0, 0, []) := rfl
theorem rw_0_1313 : mm_code 0 1313 = some (.goto 28, 3, 1341, 0, []) := rfl
theorem rw_0_1316 : mm_code 0 1316 = some (.aload_n 1, 1, 0, 0, []) := rfl
theorem rw_0_1317 : mm_code 0 1317 = some (.aload_n 0, 1, 0, 0, []) := rfl
theorem rw_0_1318 : mm_code 0 1318 = some (.iload 4, 2, 0, 0, []) := rfl
theorem rw_0_1320 : mm_code 0 1320 = some (.iconst 1, 1, 1, 0, []) := rfl
theorem rw_0_1321 : mm_code 0 1321 = some (.iadd, 1, 0, 0, []) := rfl
theorem rw_0_1322 : mm_code 0 1322 = some (.iaload, 1, 0, 0, []) := rfl
theorem rw_0_1323 : mm_code 0 1323 = some (.invokevirtual 153, 3, 138, 2, [64, 0]) := rfl
theorem rw_0_1326 : mm_code 0 1326 = some (.pop, 1, 0, 0, []) := rfl
theorem rw_0_1327 : mm_code 0 1327 = some (.aload_n 2, 1, 0, 0, []) := rfl
theorem rw_0_1328 : mm_code 0 1328 = some (.aload_n 0, 1, 0, 0, []) := rfl
theorem rw_0_1329 : mm_code 0 1329 = some (.iload 4, 2, 0, 0, []) := rfl
theorem rw_0_1331 : mm_code 0 1331 = some (.iconst 1, 1, 1, 0, []) := rfl
theorem rw_0_1332 : mm_code 0 1332 = some (.iadd, 1, 0, 0, []) := rfl
theorem rw_0_1333 : mm_code 0 1333 = some (.iaload, 1, 0, 0, []) := rfl
theorem rw_0_1334 : mm_code 0 1334 = some (.invokevirtual 156, 3, 246, 2, [65, 0]) := rfl
theorem rw_0_1337 : mm_code 0 1337 = some (.pop, 1, 0, 0, []) := rfl
theorem rw_0_1338 : mm_code 0 1338 = some (.goto 3, 3, 1341, 0, []) := rfl
theorem rw_0_1341 : mm_code 0 1341 = some (.iinc 4 6, 3, 6, 0, []) := rfl
theorem rw_0_1344 : mm_code 0 1344 = some (.goto (-1321), 3, 23, 0, []) := rfl
theorem rw_0_1347 : mm_code 0 1347 = some (.iconst 1, 1, 1, 0, []) := rfl
theorem rw_0_1348 : mm_code 0 1348 = some (.ireturn, 1, 1, 0, []) := rfl
