/-! rows of the code that the runs use -/
theorem rw_0_0 : mm_code 0 0 = some (.new 8, 3, 10, 13, [0]) := rfl
theorem rw_0_3 : mm_code 0 3 = some (.dup, 1, 0, 0, []) := rfl
theorem rw_0_4 : mm_code 0 4 = some (.invokespecial 17, 3, 109, 1, [1, 0]) := rfl
theorem rw_0_7 : mm_code 0 7 = some (.astore_n 1, 1, 0, 0, []) := rfl
theorem rw_0_8 : mm_code 0 8 = some (.new 18, 3, 11, 78, [2]) := rfl
theorem rw_0_11 : mm_code 0 11 = some (.dup, 1, 0, 0, []) := rfl
theorem rw_0_12 : mm_code 0 12 = some (.invokespecial 20, 3, 146, 1, [3, 0]) := rfl
theorem rw_0_15 : mm_code 0 15 = some (.astore_n 2, 1, 0, 0, []) := rfl
theorem rw_0_16 : mm_code 0 16 = some (.iconst 1, 1, 1, 0, []) := rfl
theorem rw_0_17 : mm_code 0 17 = some (.newarray .long, 2, 101, 0, []) := rfl
theorem rw_0_19 : mm_code 0 19 = some (.astore_n 3, 1, 0, 0, []) := rfl
theorem rw_0_20 : mm_code 0 20 = some (.iconst 0, 1, 0, 0, []) := rfl
theorem rw_0_21 : mm_code 0 21 = some (.istore 4, 2, 0, 0, []) := rfl
theorem rw_0_23 : mm_code 0 23 = some (.iload 4, 2, 0, 0, []) := rfl
theorem rw_0_25 : mm_code 0 25 = some (.aload_n 0, 1, 0, 0, []) := rfl
theorem rw_0_26 : mm_code 0 26 = some (.arraylength, 1, 0, 0, []) := rfl
theorem rw_0_27 : mm_code 0 27 = some (.bipush 6, 2, 6, 0, []) := rfl
theorem rw_0_29 : mm_code 0 29 = some (.isub, 1, 0, 0, []) := rfl
theorem rw_0_30 : mm_code 0 30 = some (.if_icmp .gt 1321, 3, 1351, 0, []) := rfl
theorem rw_0_33 : mm_code 0 33 = some (.aload_n 0, 1, 0, 0, []) := rfl
theorem rw_0_34 : mm_code 0 34 = some (.iload 4, 2, 0, 0, []) := rfl
theorem rw_0_36 : mm_code 0 36 = some (.iaload, 1, 0, 0, []) := rfl
theorem rw_0_37 : mm_code 0 37 = some (.bipush 31, 2, 31, 0, []) := rfl
theorem rw_0_39 : mm_code 0 39 = some (.iand, 1, 0, 0, []) := rfl
theorem rw_0_40 : mm_code 0 40 = some (.tableswitch 1305 0 29 #[136, 209, 234, 259, 284, 309, 346, 414, 452, 490, 503, 552, 589, 654, 691, 716, 754, 803, 828, 841, 878, 947, 960, 997, 1047, 1084, 1121, 1194, 1231, 1280], 136, 1345, 0, [176, 249, 274, 299, 324, 349, 386, 454, 492, 530, 543, 592, 629, 694, 731, 756, 794, 843, 868, 881, 918, 987, 1000, 1037, 1087, 1124, 1161, 1234, 1271, 1320]) := rfl
theorem rw_0_176 : mm_code 0 176 = some (.aload_n 1, 1, 0, 0, []) := rfl
theorem rw_0_177 : mm_code 0 177 = some (.aload_n 0, 1, 0, 0, []) := rfl
theorem rw_0_178 : mm_code 0 178 = some (.iload 4, 2, 0, 0, []) := rfl
theorem rw_0_180 : mm_code 0 180 = some (.iconst 1, 1, 1, 0, []) := rfl
theorem rw_0_181 : mm_code 0 181 = some (.iadd, 1, 0, 0, []) := rfl
theorem rw_0_182 : mm_code 0 182 = some (.iaload, 1, 0, 0, []) := rfl
theorem rw_0_183 : mm_code 0 183 = some (.aload_n 0, 1, 0, 0, []) := rfl
theorem rw_0_184 : mm_code 0 184 = some (.iload 4, 2, 0, 0, []) := rfl
theorem rw_0_186 : mm_code 0 186 = some (.iconst 2, 1, 2, 0, []) := rfl
theorem rw_0_187 : mm_code 0 187 = some (.iadd, 1, 0, 0, []) := rfl
theorem rw_0_188 : mm_code 0 188 = some (.iaload, 1, 0, 0, []) := rfl
theorem rw_0_189 : mm_code 0 189 = some (.aload_n 0, 1, 0, 0, []) := rfl
theorem rw_0_190 : mm_code 0 190 = some (.iload 4, 2, 0, 0, []) := rfl
theorem rw_0_192 : mm_code 0 192 = some (.iconst 3, 1, 3, 0, []) := rfl
theorem rw_0_193 : mm_code 0 193 = some (.iadd, 1, 0, 0, []) := rfl
theorem rw_0_194 : mm_code 0 194 = some (.iaload, 1, 0, 0, []) := rfl
theorem rw_0_195 : mm_code 0 195 = some (.aload_n 0, 1, 0, 0, []) := rfl
theorem rw_0_196 : mm_code 0 196 = some (.iload 4, 2, 0, 0, []) := rfl
theorem rw_0_198 : mm_code 0 198 = some (.iconst 4, 1, 4, 0, []) := rfl
theorem rw_0_199 : mm_code 0 199 = some (.iadd, 1, 0, 0, []) := rfl
theorem rw_0_200 : mm_code 0 200 = some (.iaload, 1, 0, 0, []) := rfl
theorem rw_0_201 : mm_code 0 201 = some (.aload_n 0, 1, 0, 0, []) := rfl
theorem rw_0_202 : mm_code 0 202 = some (.iload 4, 2, 0, 0, []) := rfl
theorem rw_0_204 : mm_code 0 204 = some (.iconst 5, 1, 5, 0, []) := rfl
theorem rw_0_205 : mm_code 0 205 = some (.iadd, 1, 0, 0, []) := rfl
theorem rw_0_206 : mm_code 0 206 = some (.iaload, 1, 0, 0, []) := rfl
theorem rw_0_207 : mm_code 0 207 = some (.invokevirtual 21, 3, 110, 6, [4, 0]) := rfl
theorem rw_0_210 : mm_code 0 210 = some (.aload_n 2, 1, 0, 0, []) := rfl
theorem rw_0_211 : mm_code 0 211 = some (.aload_n 0, 1, 0, 0, []) := rfl
theorem rw_0_212 : mm_code 0 212 = some (.iload 4, 2, 0, 0, []) := rfl
theorem rw_0_214 : mm_code 0 214 = some (.iconst 1, 1, 1, 0, []) := rfl
theorem rw_0_215 : mm_code 0 215 = some (.iadd, 1, 0, 0, []) := rfl
theorem rw_0_216 : mm_code 0 216 = some (.iaload, 1, 0, 0, []) := rfl
theorem rw_0_217 : mm_code 0 217 = some (.aload_n 0, 1, 0, 0, []) := rfl
theorem rw_0_218 : mm_code 0 218 = some (.iload 4, 2, 0, 0, []) := rfl
theorem rw_0_220 : mm_code 0 220 = some (.iconst 2, 1, 2, 0, []) := rfl
theorem rw_0_221 : mm_code 0 221 = some (.iadd, 1, 0, 0, []) := rfl
theorem rw_0_222 : mm_code 0 222 = some (.iaload, 1, 0, 0, []) := rfl
theorem rw_0_223 : mm_code 0 223 = some (.aload_n 0, 1, 0, 0, []) := rfl
theorem rw_0_224 : mm_code 0 224 = some (.iload 4, 2, 0, 0, []) := rfl
theorem rw_0_226 : mm_code 0 226 = some (.iconst 3, 1, 3, 0, []) := rfl
theorem rw_0_227 : mm_code 0 227 = some (.iadd, 1, 0, 0, []) := rfl
theorem rw_0_228 : mm_code 0 228 = some (.iaload, 1, 0, 0, []) := rfl
theorem rw_0_229 : mm_code 0 229 = some (.aload_n 0, 1, 0, 0, []) := rfl
theorem rw_0_230 : mm_code 0 230 = some (.iload 4, 2, 0, 0, []) := rfl
theorem rw_0_232 : mm_code 0 232 = some (.iconst 4, 1, 4, 0, []) := rfl
theorem rw_0_233 : mm_code 0 233 = some (.iadd, 1, 0, 0, []) := rfl
theorem rw_0_234 : mm_code 0 234 = some (.iaload, 1, 0, 0, []) := rfl
theorem rw_0_235 : mm_code 0 235 = some (.aload_n 0, 1, 0, 0, []) := rfl
theorem rw_0_236 : mm_code 0 236 = some (.iload 4, 2, 0, 0, []) := rfl
theorem rw_0_238 : mm_code 0 238 = some (.iconst 5, 1, 5, 0, []) := rfl
theorem rw_0_239 : mm_code 0 239 = some (.iadd, 1, 0, 0, []) := rfl
theorem rw_0_240 : mm_code 0 240 = some (.iaload, 1, 0, 0, []) := rfl
theorem rw_0_241 : mm_code 0 241 = some (.invokevirtual 25, 3, 148, 6, [5, 0]) := rfl
theorem rw_0_244 : mm_code 0 244 = some (.if_icmp .eq 1101, 3, 1345, 0, []) := rfl
theorem rw_0_249 : mm_code 0 249 = some (.aload_n 1, 1, 0, 0, []) := rfl
theorem rw_0_250 : mm_code 0 250 = some (.aload_n 0, 1, 0, 0, []) := rfl
theorem rw_0_251 : mm_code 0 251 = some (.iload 4, 2, 0, 0, []) := rfl
theorem rw_0_253 : mm_code 0 253 = some (.iconst 1, 1, 1, 0, []) := rfl
theorem rw_0_254 : mm_code 0 254 = some (.iadd, 1, 0, 0, []) := rfl
theorem rw_0_255 : mm_code 0 255 = some (.iaload, 1, 0, 0, []) := rfl
theorem rw_0_256 : mm_code 0 256 = some (.invokevirtual 26, 3, 111, 2, [6, 0]) := rfl
theorem rw_0_259 : mm_code 0 259 = some (.aload_n 2, 1, 0, 0, []) := rfl
theorem rw_0_260 : mm_code 0 260 = some (.aload_n 0, 1, 0, 0, []) := rfl
theorem rw_0_261 : mm_code 0 261 = some (.iload 4, 2, 0, 0, []) := rfl
theorem rw_0_263 : mm_code 0 263 = some (.iconst 1, 1, 1, 0, []) := rfl
theorem rw_0_264 : mm_code 0 264 = some (.iadd, 1, 0, 0, []) := rfl
theorem rw_0_265 : mm_code 0 265 = some (.iaload, 1, 0, 0, []) := rfl
theorem rw_0_266 : mm_code 0 266 = some (.invokevirtual 30, 3, 173, 2, [7, 0]) := rfl
theorem rw_0_269 : mm_code 0 269 = some (.if_icmp .eq 1076, 3, 1345, 0, []) := rfl
theorem rw_0_274 : mm_code 0 274 = some (.aload_n 1, 1, 0, 0, []) := rfl
theorem rw_0_275 : mm_code 0 275 = some (.aload_n 0, 1, 0, 0, []) := rfl
theorem rw_0_276 : mm_code 0 276 = some (.iload 4, 2, 0, 0, []) := rfl
theorem rw_0_278 : mm_code 0 278 = some (.iconst 1, 1, 1, 0, []) := rfl
theorem rw_0_279 : mm_code 0 279 = some (.iadd, 1, 0, 0, []) := rfl
theorem rw_0_280 : mm_code 0 280 = some (.iaload, 1, 0, 0, []) := rfl
theorem rw_0_281 : mm_code 0 281 = some (.invokevirtual 31, 3, 112, 2, [8, 0]) := rfl
theorem rw_0_284 : mm_code 0 284 = some (.aload_n 2, 1, 0, 0, []) := rfl
theorem rw_0_285 : mm_code 0 285 = some (.aload_n 0, 1, 0, 0, []) := rfl
theorem rw_0_286 : mm_code 0 286 = some (.iload 4, 2, 0, 0, []) := rfl
theorem rw_0_288 : mm_code 0 288 = some (.iconst 1, 1, 1, 0, []) := rfl
theorem rw_0_289 : mm_code 0 289 = some (.iadd, 1, 0, 0, []) := rfl
theorem rw_0_290 : mm_code 0 290 = some (.iaload, 1, 0, 0, []) := rfl
theorem rw_0_291 : mm_code 0 291 = some (.invokevirtual 34, 3, 219, 2, [9, 0]) := rfl
theorem rw_0_294 : mm_code 0 294 = some (.if_icmp .eq 1051, 3, 1345, 0, []) := rfl
theorem rw_0_299 : mm_code 0 299 = some (.aload_n 1, 1, 0, 0, []) := rfl
theorem rw_0_300 : mm_code 0 300 = some (.aload_n 0, 1, 0, 0, []) := rfl
theorem rw_0_301 : mm_code 0 301 = some (.iload 4, 2, 0, 0, []) := rfl
theorem rw_0_303 : mm_code 0 303 = some (.iconst 1, 1, 1, 0, []) := rfl
theorem rw_0_304 : mm_code 0 304 = some (.iadd, 1, 0, 0, []) := rfl
theorem rw_0_305 : mm_code 0 305 = some (.iaload, 1, 0, 0, []) := rfl
theorem rw_0_306 : mm_code 0 306 = some (.invokevirtual 35, 3, 113, 2, [10, 0]) := rfl
theorem rw_0_309 : mm_code 0 309 = some (.aload_n 2, 1, 0, 0, []) := rfl
theorem rw_0_310 : mm_code 0 310 = some (.aload_n 0, 1, 0, 0, []) := rfl
theorem rw_0_311 : mm_code 0 311 = some (.iload 4, 2, 0, 0, []) := rfl
theorem rw_0_313 : mm_code 0 313 = some (.iconst 1, 1, 1, 0, []) := rfl
theorem rw_0_314 : mm_code 0 314 = some (.iadd, 1, 0, 0, []) := rfl
theorem rw_0_315 : mm_code 0 315 = some (.iaload, 1, 0, 0, []) := rfl
theorem rw_0_316 : mm_code 0 316 = some (.invokevirtual 38, 3, 227, 2, [11, 0]) := rfl
theorem rw_0_319 : mm_code 0 319 = some (.if_icmp .eq 1026, 3, 1345, 0, []) := rfl
theorem rw_0_324 : mm_code 0 324 = some (.aload_n 1, 1, 0, 0, []) := rfl
theorem rw_0_325 : mm_code 0 325 = some (.aload_n 0, 1, 0, 0, []) := rfl
theorem rw_0_326 : mm_code 0 326 = some (.iload 4, 2, 0, 0, []) := rfl
theorem rw_0_328 : mm_code 0 328 = some (.iconst 1, 1, 1, 0, []) := rfl
theorem rw_0_329 : mm_code 0 329 = some (.iadd, 1, 0, 0, []) := rfl
theorem rw_0_330 : mm_code 0 330 = some (.iaload, 1, 0, 0, []) := rfl
theorem rw_0_331 : mm_code 0 331 = some (.invokevirtual 39, 3, 114, 2, [12, 0]) := rfl
theorem rw_0_334 : mm_code 0 334 = some (.aload_n 2, 1, 0, 0, []) := rfl
theorem rw_0_335 : mm_code 0 335 = some (.aload_n 0, 1, 0, 0, []) := rfl
theorem rw_0_336 : mm_code 0 336 = some (.iload 4, 2, 0, 0, []) := rfl
theorem rw_0_338 : mm_code 0 338 = some (.iconst 1, 1, 1, 0, []) := rfl
theorem rw_0_339 : mm_code 0 339 = some (.iadd, 1, 0, 0, []) := rfl
theorem rw_0_340 : mm_code 0 340 = some (.iaload, 1, 0, 0, []) := rfl
theorem rw_0_341 : mm_code 0 341 = some (.invokevirtual 42, 3, 174, 2, [13, 0]) := rfl
theorem rw_0_344 : mm_code 0 344 = some (.if_icmp .eq 1001, 3, 1345, 0, []) := rfl
theorem rw_0_349 : mm_code 0 349 = some (.aload_n 1, 1, 0, 0, []) := rfl
theorem rw_0_350 : mm_code 0 350 = some (.aload_n 0, 1, 0, 0, []) := rfl
theorem rw_0_351 : mm_code 0 351 = some (.iload 4, 2, 0, 0, []) := rfl
theorem rw_0_353 : mm_code 0 353 = some (.iconst 1, 1, 1, 0, []) := rfl
theorem rw_0_354 : mm_code 0 354 = some (.iadd, 1, 0, 0, []) := rfl
theorem rw_0_355 : mm_code 0 355 = some (.iaload, 1, 0, 0, []) := rfl
theorem rw_0_356 : mm_code 0 356 = some (.aload_n 0, 1, 0, 0, []) := rfl
theorem rw_0_357 : mm_code 0 357 = some (.iload 4, 2, 0, 0, []) := rfl
theorem rw_0_359 : mm_code 0 359 = some (.iconst 2, 1, 2, 0, []) := rfl
theorem rw_0_360 : mm_code 0 360 = some (.iadd, 1, 0, 0, []) := rfl
theorem rw_0_361 : mm_code 0 361 = some (.iaload, 1, 0, 0, []) := rfl
theorem rw_0_362 : mm_code 0 362 = some (.invokevirtual 43, 3, 115, 3, [14, 0]) := rfl
theorem rw_0_365 : mm_code 0 365 = some (.aload_n 2, 1, 0, 0, []) := rfl
theorem rw_0_366 : mm_code 0 366 = some (.aload_n 0, 1, 0, 0, []) := rfl
theorem rw_0_367 : mm_code 0 367 = some (.iload 4, 2, 0, 0, []) := rfl
theorem rw_0_369 : mm_code 0 369 = some (.iconst 1, 1, 1, 0, []) := rfl
theorem rw_0_370 : mm_code 0 370 = some (.iadd, 1, 0, 0, []) := rfl
theorem rw_0_371 : mm_code 0 371 = some (.iaload, 1, 0, 0, []) := rfl
theorem rw_0_372 : mm_code 0 372 = some (.aload_n 0, 1, 0, 0, []) := rfl
theorem rw_0_373 : mm_code 0 373 = some (.iload 4, 2, 0, 0, []) := rfl
theorem rw_0_375 : mm_code 0 375 = some (.iconst 2, 1, 2, 0, []) := rfl
theorem rw_0_376 : mm_code 0 376 = some (.iadd, 1, 0, 0, []) := rfl
theorem rw_0_377 : mm_code 0 377 = some (.iaload, 1, 0, 0, []) := rfl
theorem rw_0_378 : mm_code 0 378 = some (.invokevirtual 46, 3, 177, 3, [15, 0]) := rfl
theorem rw_0_381 : mm_code 0 381 = some (.if_icmp .eq 964, 3, 1345, 0, []) := rfl
theorem rw_0_386 : mm_code 0 386 = some (.aload_n 1, 1, 0, 0, []) := rfl
theorem rw_0_387 : mm_code 0 387 = some (.aload_n 0, 1, 0, 0, []) := rfl
theorem rw_0_388 : mm_code 0 388 = some (.iload 4, 2, 0, 0, []) := rfl
theorem rw_0_390 : mm_code 0 390 = some (.iconst 1, 1, 1, 0, []) := rfl
theorem rw_0_391 : mm_code 0 391 = some (.iadd, 1, 0, 0, []) := rfl
theorem rw_0_392 : mm_code 0 392 = some (.iaload, 1, 0, 0, []) := rfl
theorem rw_0_393 : mm_code 0 393 = some (.aload_n 0, 1, 0, 0, []) := rfl
theorem rw_0_394 : mm_code 0 394 = some (.iload 4, 2, 0, 0, []) := rfl
theorem rw_0_396 : mm_code 0 396 = some (.iconst 2, 1, 2, 0, []) := rfl
theorem rw_0_397 : mm_code 0 397 = some (.iadd, 1, 0, 0, []) := rfl
theorem rw_0_398 : mm_code 0 398 = some (.iaload, 1, 0, 0, []) := rfl
theorem rw_0_399 : mm_code 0 399 = some (.aload_n 3, 1, 0, 0, []) := rfl
theorem rw_0_400 : mm_code 0 400 = some (.invokestatic 47, 3, 998, 4, [16, 0]) := rfl
theorem rw_0_403 : mm_code 0 403 = some (.istore 5, 2, 0, 0, []) := rfl
theorem rw_0_405 : mm_code 0 405 = some (.aload_n 2, 1, 0, 0, []) := rfl
theorem rw_0_406 : mm_code 0 406 = some (.aload_n 0, 1, 0, 0, []) := rfl
theorem rw_0_407 : mm_code 0 407 = some (.iload 4, 2, 0, 0, []) := rfl
theorem rw_0_409 : mm_code 0 409 = some (.iconst 1, 1, 1, 0, []) := rfl
theorem rw_0_410 : mm_code 0 410 = some (.iadd, 1, 0, 0, []) := rfl
theorem rw_0_411 : mm_code 0 411 = some (.iaload, 1, 0, 0, []) := rfl
theorem rw_0_412 : mm_code 0 412 = some (.aload_n 0, 1, 0, 0, []) := rfl
theorem rw_0_413 : mm_code 0 413 = some (.iload 4, 2, 0, 0, []) := rfl
theorem rw_0_415 : mm_code 0 415 = some (.iconst 2, 1, 2, 0, []) := rfl
theorem rw_0_416 : mm_code 0 416 = some (.iadd, 1, 0, 0, []) := rfl
theorem rw_0_417 : mm_code 0 417 = some (.iaload, 1, 0, 0, []) := rfl
theorem rw_0_418 : mm_code 0 418 = some (.invokevirtual 52, 3, 182, 3, [17, 0]) := rfl
theorem rw_0_421 : mm_code 0 421 = some (.istore 6, 2, 0, 0, []) := rfl
theorem rw_0_423 : mm_code 0 423 = some (.aload_n 2, 1, 0, 0, []) := rfl
theorem rw_0_424 : mm_code 0 424 = some (.invokevirtual 53, 3, 147, 1, [18, 0]) := rfl
theorem rw_0_427 : mm_code 0 427 = some (.iload 5, 2, 0, 0, []) := rfl
theorem rw_0_429 : mm_code 0 429 = some (.if_icmp .eq 5, 3, 434, 0, []) := rfl
theorem rw_0_434 : mm_code 0 434 = some (.iload 5, 2, 0, 0, []) := rfl
theorem rw_0_436 : mm_code 0 436 = some (.ifCond .ne 15, 3, 451, 0, []) := rfl
theorem rw_0_451 : mm_code 0 451 = some (.goto 894, 3, 1345, 0, []) := rfl
theorem rw_0_454 : mm_code 0 454 = some (.aload_n 1, 1, 0, 0, []) := rfl
theorem rw_0_455 : mm_code 0 455 = some (.aload_n 0, 1, 0, 0, []) := rfl
theorem rw_0_456 : mm_code 0 456 = some (.iload 4, 2, 0, 0, []) := rfl
theorem rw_0_458 : mm_code 0 458 = some (.iconst 1, 1, 1, 0, []) := rfl
theorem rw_0_459 : mm_code 0 459 = some (.iadd, 1, 0, 0, []) := rfl
theorem rw_0_460 : mm_code 0 460 = some (.iaload, 1, 0, 0, []) := rfl
theorem rw_0_461 : mm_code 0 461 = some (.aload_n 0, 1, 0, 0, []) := rfl
theorem rw_0_462 : mm_code 0 462 = some (.iload 4, 2, 0, 0, []) := rfl
theorem rw_0_464 : mm_code 0 464 = some (.iconst 2, 1, 2, 0, []) := rfl
theorem rw_0_465 : mm_code 0 465 = some (.iadd, 1, 0, 0, []) := rfl
theorem rw_0_466 : mm_code 0 466 = some (.iaload, 1, 0, 0, []) := rfl
theorem rw_0_467 : mm_code 0 467 = some (.invokevirtual 57, 3, 116, 3, [19, 0]) := rfl
theorem rw_0_470 : mm_code 0 470 = some (.aload_n 2, 1, 0, 0, []) := rfl
theorem rw_0_471 : mm_code 0 471 = some (.aload_n 0, 1, 0, 0, []) := rfl
theorem rw_0_472 : mm_code 0 472 = some (.iload 4, 2, 0, 0, []) := rfl
theorem rw_0_474 : mm_code 0 474 = some (.iconst 1, 1, 1, 0, []) := rfl
theorem rw_0_475 : mm_code 0 475 = some (.iadd, 1, 0, 0, []) := rfl
theorem rw_0_476 : mm_code 0 476 = some (.iaload, 1, 0, 0, []) := rfl
theorem rw_0_477 : mm_code 0 477 = some (.aload_n 0, 1, 0, 0, []) := rfl
theorem rw_0_478 : mm_code 0 478 = some (.iload 4, 2, 0, 0, []) := rfl
theorem rw_0_480 : mm_code 0 480 = some (.iconst 2, 1, 2, 0, []) := rfl
theorem rw_0_481 : mm_code 0 481 = some (.iadd, 1, 0, 0, []) := rfl
theorem rw_0_482 : mm_code 0 482 = some (.iaload, 1, 0, 0, []) := rfl
theorem rw_0_483 : mm_code 0 483 = some (.invokevirtual 61, 3, 185, 3, [20, 0]) := rfl
theorem rw_0_486 : mm_code 0 486 = some (.lcmp, 1, 0, 0, []) := rfl
theorem rw_0_487 : mm_code 0 487 = some (.ifCond .eq 858, 3, 1345, 0, []) := rfl
theorem rw_0_492 : mm_code 0 492 = some (.aload_n 1, 1, 0, 0, []) := rfl
theorem rw_0_493 : mm_code 0 493 = some (.aload_n 0, 1, 0, 0, []) := rfl
theorem rw_0_494 : mm_code 0 494 = some (.iload 4, 2, 0, 0, []) := rfl
theorem rw_0_496 : mm_code 0 496 = some (.iconst 1, 1, 1, 0, []) := rfl
theorem rw_0_497 : mm_code 0 497 = some (.iadd, 1, 0, 0, []) := rfl
theorem rw_0_498 : mm_code 0 498 = some (.iaload, 1, 0, 0, []) := rfl
theorem rw_0_499 : mm_code 0 499 = some (.aload_n 0, 1, 0, 0, []) := rfl
theorem rw_0_500 : mm_code 0 500 = some (.iload 4, 2, 0, 0, []) := rfl
theorem rw_0_502 : mm_code 0 502 = some (.iconst 2, 1, 2, 0, []) := rfl
theorem rw_0_503 : mm_code 0 503 = some (.iadd, 1, 0, 0, []) := rfl
theorem rw_0_504 : mm_code 0 504 = some (.iaload, 1, 0, 0, []) := rfl
theorem rw_0_505 : mm_code 0 505 = some (.invokevirtual 62, 3, 117, 3, [21, 0]) := rfl
theorem rw_0_508 : mm_code 0 508 = some (.aload_n 2, 1, 0, 0, []) := rfl
theorem rw_0_509 : mm_code 0 509 = some (.aload_n 0, 1, 0, 0, []) := rfl
theorem rw_0_510 : mm_code 0 510 = some (.iload 4, 2, 0, 0, []) := rfl
theorem rw_0_512 : mm_code 0 512 = some (.iconst 1, 1, 1, 0, []) := rfl
theorem rw_0_513 : mm_code 0 513 = some (.iadd, 1, 0, 0, []) := rfl
theorem rw_0_514 : mm_code 0 514 = some (.iaload, 1, 0, 0, []) := rfl
theorem rw_0_515 : mm_code 0 515 = some (.aload_n 0, 1, 0, 0, []) := rfl
theorem rw_0_516 : mm_code 0 516 = some (.iload 4, 2, 0, 0, []) := rfl
theorem rw_0_518 : mm_code 0 518 = some (.iconst 2, 1, 2, 0, []) := rfl
theorem rw_0_519 : mm_code 0 519 = some (.iadd, 1, 0, 0, []) := rfl
theorem rw_0_520 : mm_code 0 520 = some (.iaload, 1, 0, 0, []) := rfl
theorem rw_0_521 : mm_code 0 521 = some (.invokevirtual 65, 3, 192, 3, [22, 0]) := rfl
theorem rw_0_524 : mm_code 0 524 = some (.lcmp, 1, 0, 0, []) := rfl
theorem rw_0_525 : mm_code 0 525 = some (.ifCond .eq 820, 3, 1345, 0, []) := rfl
theorem rw_0_530 : mm_code 0 530 = some (.aload_n 1, 1, 0, 0, []) := rfl
theorem rw_0_531 : mm_code 0 531 = some (.invokevirtual 66, 3, 118, 1, [23, 0]) := rfl
theorem rw_0_534 : mm_code 0 534 = some (.aload_n 2, 1, 0, 0, []) := rfl
theorem rw_0_535 : mm_code 0 535 = some (.invokevirtual 69, 3, 193, 1, [24, 0]) := rfl
theorem rw_0_538 : mm_code 0 538 = some (.if_icmp .eq 807, 3, 1345, 0, []) := rfl
theorem rw_0_543 : mm_code 0 543 = some (.aload_n 1, 1, 0, 0, []) := rfl
theorem rw_0_544 : mm_code 0 544 = some (.aload_n 0, 1, 0, 0, []) := rfl
theorem rw_0_545 : mm_code 0 545 = some (.iload 4, 2, 0, 0, []) := rfl
theorem rw_0_547 : mm_code 0 547 = some (.iconst 1, 1, 1, 0, []) := rfl
theorem rw_0_548 : mm_code 0 548 = some (.iadd, 1, 0, 0, []) := rfl
theorem rw_0_549 : mm_code 0 549 = some (.iaload, 1, 0, 0, []) := rfl
theorem rw_0_550 : mm_code 0 550 = some (.aload_n 0, 1, 0, 0, []) := rfl
theorem rw_0_551 : mm_code 0 551 = some (.iload 4, 2, 0, 0, []) := rfl
theorem rw_0_553 : mm_code 0 553 = some (.iconst 2, 1, 2, 0, []) := rfl
theorem rw_0_554 : mm_code 0 554 = some (.iadd, 1, 0, 0, []) := rfl
theorem rw_0_555 : mm_code 0 555 = some (.iaload, 1, 0, 0, []) := rfl
theorem rw_0_556 : mm_code 0 556 = some (.aload_n 0, 1, 0, 0, []) := rfl
theorem rw_0_557 : mm_code 0 557 = some (.iload 4, 2, 0, 0, []) := rfl
theorem rw_0_559 : mm_code 0 559 = some (.iconst 3, 1, 3, 0, []) := rfl
theorem rw_0_560 : mm_code 0 560 = some (.iadd, 1, 0, 0, []) := rfl
theorem rw_0_561 : mm_code 0 561 = some (.iaload, 1, 0, 0, []) := rfl
theorem rw_0_562 : mm_code 0 562 = some (.invokevirtual 70, 3, 119, 4, [25, 0]) := rfl
theorem rw_0_565 : mm_code 0 565 = some (.aload_n 2, 1, 0, 0, []) := rfl
theorem rw_0_566 : mm_code 0 566 = some (.aload_n 0, 1, 0, 0, []) := rfl
theorem rw_0_567 : mm_code 0 567 = some (.iload 4, 2, 0, 0, []) := rfl
theorem rw_0_569 : mm_code 0 569 = some (.iconst 1, 1, 1, 0, []) := rfl
theorem rw_0_570 : mm_code 0 570 = some (.iadd, 1, 0, 0, []) := rfl
theorem rw_0_571 : mm_code 0 571 = some (.iaload, 1, 0, 0, []) := rfl
theorem rw_0_572 : mm_code 0 572 = some (.aload_n 0, 1, 0, 0, []) := rfl
theorem rw_0_573 : mm_code 0 573 = some (.iload 4, 2, 0, 0, []) := rfl
theorem rw_0_575 : mm_code 0 575 = some (.iconst 2, 1, 2, 0, []) := rfl
theorem rw_0_576 : mm_code 0 576 = some (.iadd, 1, 0, 0, []) := rfl
theorem rw_0_577 : mm_code 0 577 = some (.iaload, 1, 0, 0, []) := rfl
theorem rw_0_578 : mm_code 0 578 = some (.aload_n 0, 1, 0, 0, []) := rfl
theorem rw_0_579 : mm_code 0 579 = some (.iload 4, 2, 0, 0, []) := rfl
theorem rw_0_581 : mm_code 0 581 = some (.iconst 3, 1, 3, 0, []) := rfl
theorem rw_0_582 : mm_code 0 582 = some (.iadd, 1, 0, 0, []) := rfl
theorem rw_0_583 : mm_code 0 583 = some (.iaload, 1, 0, 0, []) := rfl
theorem rw_0_584 : mm_code 0 584 = some (.invokevirtual 74, 3, 194, 4, [26, 0]) := rfl
theorem rw_0_587 : mm_code 0 587 = some (.if_icmp .eq 758, 3, 1345, 0, []) := rfl
theorem rw_0_592 : mm_code 0 592 = some (.aload_n 1, 1, 0, 0, []) := rfl
theorem rw_0_593 : mm_code 0 593 = some (.aload_n 0, 1, 0, 0, []) := rfl
theorem rw_0_594 : mm_code 0 594 = some (.iload 4, 2, 0, 0, []) := rfl
theorem rw_0_596 : mm_code 0 596 = some (.iconst 1, 1, 1, 0, []) := rfl
theorem rw_0_597 : mm_code 0 597 = some (.iadd, 1, 0, 0, []) := rfl
theorem rw_0_598 : mm_code 0 598 = some (.iaload, 1, 0, 0, []) := rfl
theorem rw_0_599 : mm_code 0 599 = some (.aload_n 0, 1, 0, 0, []) := rfl
theorem rw_0_600 : mm_code 0 600 = some (.iload 4, 2, 0, 0, []) := rfl
theorem rw_0_602 : mm_code 0 602 = some (.iconst 2, 1, 2, 0, []) := rfl
theorem rw_0_603 : mm_code 0 603 = some (.iadd, 1, 0, 0, []) := rfl
theorem rw_0_604 : mm_code 0 604 = some (.iaload, 1, 0, 0, []) := rfl
theorem rw_0_605 : mm_code 0 605 = some (.invokevirtual 75, 3, 120, 3, [27, 0]) := rfl
theorem rw_0_608 : mm_code 0 608 = some (.aload_n 2, 1, 0, 0, []) := rfl
theorem rw_0_609 : mm_code 0 609 = some (.aload_n 0, 1, 0, 0, []) := rfl
theorem rw_0_610 : mm_code 0 610 = some (.iload 4, 2, 0, 0, []) := rfl
theorem rw_0_612 : mm_code 0 612 = some (.iconst 1, 1, 1, 0, []) := rfl
theorem rw_0_613 : mm_code 0 613 = some (.iadd, 1, 0, 0, []) := rfl
theorem rw_0_614 : mm_code 0 614 = some (.iaload, 1, 0, 0, []) := rfl
theorem rw_0_615 : mm_code 0 615 = some (.aload_n 0, 1, 0, 0, []) := rfl
theorem rw_0_616 : mm_code 0 616 = some (.iload 4, 2, 0, 0, []) := rfl
theorem rw_0_618 : mm_code 0 618 = some (.iconst 2, 1, 2, 0, []) := rfl
theorem rw_0_619 : mm_code 0 619 = some (.iadd, 1, 0, 0, []) := rfl
theorem rw_0_620 : mm_code 0 620 = some (.iaload, 1, 0, 0, []) := rfl
theorem rw_0_621 : mm_code 0 621 = some (.invokevirtual 78, 3, 195, 3, [28, 0]) := rfl
theorem rw_0_624 : mm_code 0 624 = some (.if_icmp .eq 721, 3, 1345, 0, []) := rfl
theorem rw_0_629 : mm_code 0 629 = some (.aload_n 1, 1, 0, 0, []) := rfl
theorem rw_0_630 : mm_code 0 630 = some (.aload_n 0, 1, 0, 0, []) := rfl
theorem rw_0_631 : mm_code 0 631 = some (.iload 4, 2, 0, 0, []) := rfl
theorem rw_0_633 : mm_code 0 633 = some (.iconst 1, 1, 1, 0, []) := rfl
theorem rw_0_634 : mm_code 0 634 = some (.iadd, 1, 0, 0, []) := rfl
theorem rw_0_635 : mm_code 0 635 = some (.iaload, 1, 0, 0, []) := rfl
theorem rw_0_636 : mm_code 0 636 = some (.aload_n 0, 1, 0, 0, []) := rfl
theorem rw_0_637 : mm_code 0 637 = some (.iload 4, 2, 0, 0, []) := rfl
theorem rw_0_639 : mm_code 0 639 = some (.iconst 2, 1, 2, 0, []) := rfl
theorem rw_0_640 : mm_code 0 640 = some (.iadd, 1, 0, 0, []) := rfl
theorem rw_0_641 : mm_code 0 641 = some (.iaload, 1, 0, 0, []) := rfl
theorem rw_0_642 : mm_code 0 642 = some (.aload_n 0, 1, 0, 0, []) := rfl
theorem rw_0_643 : mm_code 0 643 = some (.iload 4, 2, 0, 0, []) := rfl
theorem rw_0_645 : mm_code 0 645 = some (.iconst 3, 1, 3, 0, []) := rfl
theorem rw_0_646 : mm_code 0 646 = some (.iadd, 1, 0, 0, []) := rfl
theorem rw_0_647 : mm_code 0 647 = some (.iaload, 1, 0, 0, []) := rfl
theorem rw_0_648 : mm_code 0 648 = some (.ifCond .eq 7, 3, 655, 0, []) := rfl
theorem rw_0_651 : mm_code 0 651 = some (.iconst 1, 1, 1, 0, []) := rfl
theorem rw_0_652 : mm_code 0 652 = some (.goto 4, 3, 656, 0, []) := rfl
theorem rw_0_655 : mm_code 0 655 = some (.iconst 0, 1, 0, 0, []) := rfl
theorem rw_0_656 : mm_code 0 656 = some (.invokevirtual 79, 3, 121, 4, [29, 0]) := rfl
theorem rw_0_659 : mm_code 0 659 = some (.aload_n 2, 1, 0, 0, []) := rfl
theorem rw_0_660 : mm_code 0 660 = some (.aload_n 0, 1, 0, 0, []) := rfl
theorem rw_0_661 : mm_code 0 661 = some (.iload 4, 2, 0, 0, []) := rfl
theorem rw_0_663 : mm_code 0 663 = some (.iconst 1, 1, 1, 0, []) := rfl
theorem rw_0_664 : mm_code 0 664 = some (.iadd, 1, 0, 0, []) := rfl
theorem rw_0_665 : mm_code 0 665 = some (.iaload, 1, 0, 0, []) := rfl
theorem rw_0_666 : mm_code 0 666 = some (.aload_n 0, 1, 0, 0, []) := rfl
theorem rw_0_667 : mm_code 0 667 = some (.iload 4, 2, 0, 0, []) := rfl
theorem rw_0_669 : mm_code 0 669 = some (.iconst 2, 1, 2, 0, []) := rfl
theorem rw_0_670 : mm_code 0 670 = some (.iadd, 1, 0, 0, []) := rfl
theorem rw_0_671 : mm_code 0 671 = some (.iaload, 1, 0, 0, []) := rfl
theorem rw_0_672 : mm_code 0 672 = some (.aload_n 0, 1, 0, 0, []) := rfl
theorem rw_0_673 : mm_code 0 673 = some (.iload 4, 2, 0, 0, []) := rfl
theorem rw_0_675 : mm_code 0 675 = some (.iconst 3, 1, 3, 0, []) := rfl
theorem rw_0_676 : mm_code 0 676 = some (.iadd, 1, 0, 0, []) := rfl
theorem rw_0_677 : mm_code 0 677 = some (.iaload, 1, 0, 0, []) := rfl
theorem rw_0_678 : mm_code 0 678 = some (.ifCond .eq 7, 3, 685, 0, []) := rfl
theorem rw_0_681 : mm_code 0 681 = some (.iconst 1, 1, 1, 0, []) := rfl
theorem rw_0_682 : mm_code 0 682 = some (.goto 4, 3, 686, 0, []) := rfl
theorem rw_0_685 : mm_code 0 685 = some (.iconst 0, 1, 0, 0, []) := rfl
theorem rw_0_686 : mm_code 0 686 = some (.invokevirtual 83, 3, 196, 4, [30, 0]) := rfl
theorem rw_0_689 : mm_code 0 689 = some (.if_icmp .eq 656, 3, 1345, 0, []) := rfl
theorem rw_0_694 : mm_code 0 694 = some (.aload_n 1, 1, 0, 0, []) := rfl
theorem rw_0_695 : mm_code 0 695 = some (.aload_n 0, 1, 0, 0, []) := rfl
theorem rw_0_696 : mm_code 0 696 = some (.iload 4, 2, 0, 0, []) := rfl
theorem rw_0_698 : mm_code 0 698 = some (.iconst 1, 1, 1, 0, []) := rfl
theorem rw_0_699 : mm_code 0 699 = some (.iadd, 1, 0, 0, []) := rfl
theorem rw_0_700 : mm_code 0 700 = some (.iaload, 1, 0, 0, []) := rfl
theorem rw_0_701 : mm_code 0 701 = some (.aload_n 0, 1, 0, 0, []) := rfl
theorem rw_0_702 : mm_code 0 702 = some (.iload 4, 2, 0, 0, []) := rfl
theorem rw_0_704 : mm_code 0 704 = some (.iconst 2, 1, 2, 0, []) := rfl
theorem rw_0_705 : mm_code 0 705 = some (.iadd, 1, 0, 0, []) := rfl
theorem rw_0_706 : mm_code 0 706 = some (.iaload, 1, 0, 0, []) := rfl
theorem rw_0_707 : mm_code 0 707 = some (.invokevirtual 84, 3, 122, 3, [31, 0]) := rfl
theorem rw_0_710 : mm_code 0 710 = some (.aload_n 2, 1, 0, 0, []) := rfl
theorem rw_0_711 : mm_code 0 711 = some (.aload_n 0, 1, 0, 0, []) := rfl
theorem rw_0_712 : mm_code 0 712 = some (.iload 4, 2, 0, 0, []) := rfl
theorem rw_0_714 : mm_code 0 714 = some (.iconst 1, 1, 1, 0, []) := rfl
theorem rw_0_715 : mm_code 0 715 = some (.iadd, 1, 0, 0, []) := rfl
theorem rw_0_716 : mm_code 0 716 = some (.iaload, 1, 0, 0, []) := rfl
theorem rw_0_717 : mm_code 0 717 = some (.aload_n 0, 1, 0, 0, []) := rfl
theorem rw_0_718 : mm_code 0 718 = some (.iload 4, 2, 0, 0, []) := rfl
theorem rw_0_720 : mm_code 0 720 = some (.iconst 2, 1, 2, 0, []) := rfl
theorem rw_0_721 : mm_code 0 721 = some (.iadd, 1, 0, 0, []) := rfl
theorem rw_0_722 : mm_code 0 722 = some (.iaload, 1, 0, 0, []) := rfl
theorem rw_0_723 : mm_code 0 723 = some (.invokevirtual 87, 3, 198, 3, [32, 0]) := rfl
theorem rw_0_726 : mm_code 0 726 = some (.if_icmp .eq 619, 3, 1345, 0, []) := rfl
theorem rw_0_731 : mm_code 0 731 = some (.aload_n 1, 1, 0, 0, []) := rfl
theorem rw_0_732 : mm_code 0 732 = some (.aload_n 0, 1, 0, 0, []) := rfl
theorem rw_0_733 : mm_code 0 733 = some (.iload 4, 2, 0, 0, []) := rfl
theorem rw_0_735 : mm_code 0 735 = some (.iconst 1, 1, 1, 0, []) := rfl
theorem rw_0_736 : mm_code 0 736 = some (.iadd, 1, 0, 0, []) := rfl
theorem rw_0_737 : mm_code 0 737 = some (.iaload, 1, 0, 0, []) := rfl
theorem rw_0_738 : mm_code 0 738 = some (.invokevirtual 88, 3, 123, 2, [33, 0]) := rfl
theorem rw_0_741 : mm_code 0 741 = some (.aload_n 2, 1, 0, 0, []) := rfl
theorem rw_0_742 : mm_code 0 742 = some (.aload_n 0, 1, 0, 0, []) := rfl
theorem rw_0_743 : mm_code 0 743 = some (.iload 4, 2, 0, 0, []) := rfl
theorem rw_0_745 : mm_code 0 745 = some (.iconst 1, 1, 1, 0, []) := rfl
theorem rw_0_746 : mm_code 0 746 = some (.iadd, 1, 0, 0, []) := rfl
theorem rw_0_747 : mm_code 0 747 = some (.iaload, 1, 0, 0, []) := rfl
theorem rw_0_748 : mm_code 0 748 = some (.invokevirtual 91, 3, 199, 2, [34, 0]) := rfl
theorem rw_0_751 : mm_code 0 751 = some (.if_icmp .eq 594, 3, 1345, 0, []) := rfl
theorem rw_0_756 : mm_code 0 756 = some (.aload_n 1, 1, 0, 0, []) := rfl
theorem rw_0_757 : mm_code 0 757 = some (.aload_n 0, 1, 0, 0, []) := rfl
theorem rw_0_758 : mm_code 0 758 = some (.iload 4, 2, 0, 0, []) := rfl
theorem rw_0_760 : mm_code 0 760 = some (.iconst 1, 1, 1, 0, []) := rfl
theorem rw_0_761 : mm_code 0 761 = some (.iadd, 1, 0, 0, []) := rfl
theorem rw_0_762 : mm_code 0 762 = some (.iaload, 1, 0, 0, []) := rfl
theorem rw_0_763 : mm_code 0 763 = some (.aload_n 0, 1, 0, 0, []) := rfl
theorem rw_0_764 : mm_code 0 764 = some (.iload 4, 2, 0, 0, []) := rfl
theorem rw_0_766 : mm_code 0 766 = some (.iconst 2, 1, 2, 0, []) := rfl
theorem rw_0_767 : mm_code 0 767 = some (.iadd, 1, 0, 0, []) := rfl
theorem rw_0_768 : mm_code 0 768 = some (.iaload, 1, 0, 0, []) := rfl
theorem rw_0_769 : mm_code 0 769 = some (.invokevirtual 92, 3, 124, 3, [35, 0]) := rfl
theorem rw_0_772 : mm_code 0 772 = some (.aload_n 2, 1, 0, 0, []) := rfl
theorem rw_0_773 : mm_code 0 773 = some (.aload_n 0, 1, 0, 0, []) := rfl
theorem rw_0_774 : mm_code 0 774 = some (.iload 4, 2, 0, 0, []) := rfl
theorem rw_0_776 : mm_code 0 776 = some (.iconst 1, 1, 1, 0, []) := rfl
theorem rw_0_777 : mm_code 0 777 = some (.iadd, 1, 0, 0, []) := rfl
theorem rw_0_778 : mm_code 0 778 = some (.iaload, 1, 0, 0, []) := rfl
theorem rw_0_779 : mm_code 0 779 = some (.aload_n 0, 1, 0, 0, []) := rfl
theorem rw_0_780 : mm_code 0 780 = some (.iload 4, 2, 0, 0, []) := rfl
theorem rw_0_782 : mm_code 0 782 = some (.iconst 2, 1, 2, 0, []) := rfl
theorem rw_0_783 : mm_code 0 783 = some (.iadd, 1, 0, 0, []) := rfl
theorem rw_0_784 : mm_code 0 784 = some (.iaload, 1, 0, 0, []) := rfl
theorem rw_0_785 : mm_code 0 785 = some (.invokevirtual 95, 3, 200, 3, [36, 0]) := rfl
theorem rw_0_788 : mm_code 0 788 = some (.lcmp, 1, 0, 0, []) := rfl
theorem rw_0_789 : mm_code 0 789 = some (.ifCond .eq 556, 3, 1345, 0, []) := rfl
theorem rw_0_794 : mm_code 0 794 = some (.aload_n 1, 1, 0, 0, []) := rfl
theorem rw_0_795 : mm_code 0 795 = some (.aload_n 0, 1, 0, 0, []) := rfl
theorem rw_0_796 : mm_code 0 796 = some (.iload 4, 2, 0, 0, []) := rfl
theorem rw_0_798 : mm_code 0 798 = some (.iconst 1, 1, 1, 0, []) := rfl
theorem rw_0_799 : mm_code 0 799 = some (.iadd, 1, 0, 0, []) := rfl
theorem rw_0_800 : mm_code 0 800 = some (.iaload, 1, 0, 0, []) := rfl
theorem rw_0_801 : mm_code 0 801 = some (.aload_n 0, 1, 0, 0, []) := rfl
theorem rw_0_802 : mm_code 0 802 = some (.iload 4, 2, 0, 0, []) := rfl
theorem rw_0_804 : mm_code 0 804 = some (.iconst 2, 1, 2, 0, []) := rfl
theorem rw_0_805 : mm_code 0 805 = some (.iadd, 1, 0, 0, []) := rfl
theorem rw_0_806 : mm_code 0 806 = some (.iaload, 1, 0, 0, []) := rfl
theorem rw_0_807 : mm_code 0 807 = some (.aload_n 0, 1, 0, 0, []) := rfl
theorem rw_0_808 : mm_code 0 808 = some (.iload 4, 2, 0, 0, []) := rfl
theorem rw_0_810 : mm_code 0 810 = some (.iconst 3, 1, 3, 0, []) := rfl
theorem rw_0_811 : mm_code 0 811 = some (.iadd, 1, 0, 0, []) := rfl
theorem rw_0_812 : mm_code 0 812 = some (.iaload, 1, 0, 0, []) := rfl
theorem rw_0_813 : mm_code 0 813 = some (.invokevirtual 96, 3, 125, 4, [37, 0]) := rfl
theorem rw_0_816 : mm_code 0 816 = some (.aload_n 2, 1, 0, 0, []) := rfl
theorem rw_0_817 : mm_code 0 817 = some (.aload_n 0, 1, 0, 0, []) := rfl
theorem rw_0_818 : mm_code 0 818 = some (.iload 4, 2, 0, 0, []) := rfl
theorem rw_0_820 : mm_code 0 820 = some (.iconst 1, 1, 1, 0, []) := rfl
theorem rw_0_821 : mm_code 0 821 = some (.iadd, 1, 0, 0, []) := rfl
theorem rw_0_822 : mm_code 0 822 = some (.iaload, 1, 0, 0, []) := rfl
theorem rw_0_823 : mm_code 0 823 = some (.aload_n 0, 1, 0, 0, []) := rfl
theorem rw_0_824 : mm_code 0 824 = some (.iload 4, 2, 0, 0, []) := rfl
theorem rw_0_826 : mm_code 0 826 = some (.iconst 2, 1, 2, 0, []) := rfl
theorem rw_0_827 : mm_code 0 827 = some (.iadd, 1, 0, 0, []) := rfl
theorem rw_0_828 : mm_code 0 828 = some (.iaload, 1, 0, 0, []) := rfl
theorem rw_0_829 : mm_code 0 829 = some (.aload_n 0, 1, 0, 0, []) := rfl
theorem rw_0_830 : mm_code 0 830 = some (.iload 4, 2, 0, 0, []) := rfl
theorem rw_0_832 : mm_code 0 832 = some (.iconst 3, 1, 3, 0, []) := rfl
theorem rw_0_833 : mm_code 0 833 = some (.iadd, 1, 0, 0, []) := rfl
theorem rw_0_834 : mm_code 0 834 = some (.iaload, 1, 0, 0, []) := rfl
theorem rw_0_835 : mm_code 0 835 = some (.invokevirtual 99, 3, 202, 4, [38, 0]) := rfl
theorem rw_0_838 : mm_code 0 838 = some (.if_icmp .eq 507, 3, 1345, 0, []) := rfl
theorem rw_0_843 : mm_code 0 843 = some (.aload_n 1, 1, 0, 0, []) := rfl
theorem rw_0_844 : mm_code 0 844 = some (.aload_n 0, 1, 0, 0, []) := rfl
theorem rw_0_845 : mm_code 0 845 = some (.iload 4, 2, 0, 0, []) := rfl
theorem rw_0_847 : mm_code 0 847 = some (.iconst 1, 1, 1, 0, []) := rfl
theorem rw_0_848 : mm_code 0 848 = some (.iadd, 1, 0, 0, []) := rfl
theorem rw_0_849 : mm_code 0 849 = some (.iaload, 1, 0, 0, []) := rfl
theorem rw_0_850 : mm_code 0 850 = some (.invokevirtual 100, 3, 126, 2, [39, 0]) := rfl
theorem rw_0_853 : mm_code 0 853 = some (.aload_n 2, 1, 0, 0, []) := rfl
theorem rw_0_854 : mm_code 0 854 = some (.aload_n 0, 1, 0, 0, []) := rfl
theorem rw_0_855 : mm_code 0 855 = some (.iload 4, 2, 0, 0, []) := rfl
theorem rw_0_857 : mm_code 0 857 = some (.iconst 1, 1, 1, 0, []) := rfl
theorem rw_0_858 : mm_code 0 858 = some (.iadd, 1, 0, 0, []) := rfl
theorem rw_0_859 : mm_code 0 859 = some (.iaload, 1, 0, 0, []) := rfl
theorem rw_0_860 : mm_code 0 860 = some (.invokevirtual 104, 3, 203, 2, [40, 0]) := rfl
theorem rw_0_863 : mm_code 0 863 = some (.if_icmp .eq 482, 3, 1345, 0, []) := rfl
theorem rw_0_868 : mm_code 0 868 = some (.aload_n 1, 1, 0, 0, []) := rfl
theorem rw_0_869 : mm_code 0 869 = some (.invokevirtual 105, 3, 127, 1, [41, 0]) := rfl
theorem rw_0_872 : mm_code 0 872 = some (.aload_n 2, 1, 0, 0, []) := rfl
theorem rw_0_873 : mm_code 0 873 = some (.invokevirtual 108, 3, 204, 1, [42, 0]) := rfl
theorem rw_0_876 : mm_code 0 876 = some (.if_icmp .eq 469, 3, 1345, 0, []) := rfl
theorem rw_0_881 : mm_code 0 881 = some (.aload_n 1, 1, 0, 0, []) := rfl
theorem rw_0_882 : mm_code 0 882 = some (.aload_n 0, 1, 0, 0, []) := rfl
theorem rw_0_883 : mm_code 0 883 = some (.iload 4, 2, 0, 0, []) := rfl
theorem rw_0_885 : mm_code 0 885 = some (.iconst 1, 1, 1, 0, []) := rfl
theorem rw_0_886 : mm_code 0 886 = some (.iadd, 1, 0, 0, []) := rfl
theorem rw_0_887 : mm_code 0 887 = some (.iaload, 1, 0, 0, []) := rfl
theorem rw_0_888 : mm_code 0 888 = some (.aload_n 0, 1, 0, 0, []) := rfl
theorem rw_0_889 : mm_code 0 889 = some (.iload 4, 2, 0, 0, []) := rfl
theorem rw_0_891 : mm_code 0 891 = some (.iconst 2, 1, 2, 0, []) := rfl
theorem rw_0_892 : mm_code 0 892 = some (.iadd, 1, 0, 0, []) := rfl
theorem rw_0_893 : mm_code 0 893 = some (.iaload, 1, 0, 0, []) := rfl
theorem rw_0_894 : mm_code 0 894 = some (.invokevirtual 109, 3, 128, 3, [43, 0]) := rfl
theorem rw_0_897 : mm_code 0 897 = some (.aload_n 2, 1, 0, 0, []) := rfl
theorem rw_0_898 : mm_code 0 898 = some (.aload_n 0, 1, 0, 0, []) := rfl
theorem rw_0_899 : mm_code 0 899 = some (.iload 4, 2, 0, 0, []) := rfl
theorem rw_0_901 : mm_code 0 901 = some (.iconst 1, 1, 1, 0, []) := rfl
theorem rw_0_902 : mm_code 0 902 = some (.iadd, 1, 0, 0, []) := rfl
theorem rw_0_903 : mm_code 0 903 = some (.iaload, 1, 0, 0, []) := rfl
theorem rw_0_904 : mm_code 0 904 = some (.aload_n 0, 1, 0, 0, []) := rfl
theorem rw_0_905 : mm_code 0 905 = some (.iload 4, 2, 0, 0, []) := rfl
theorem rw_0_907 : mm_code 0 907 = some (.iconst 2, 1, 2, 0, []) := rfl
theorem rw_0_908 : mm_code 0 908 = some (.iadd, 1, 0, 0, []) := rfl
theorem rw_0_909 : mm_code 0 909 = some (.iaload, 1, 0, 0, []) := rfl
theorem rw_0_910 : mm_code 0 910 = some (.invokevirtual 112, 3, 206, 3, [44, 0]) := rfl
theorem rw_0_913 : mm_code 0 913 = some (.if_icmp .eq 432, 3, 1345, 0, []) := rfl
theorem rw_0_918 : mm_code 0 918 = some (.aload_n 1, 1, 0, 0, []) := rfl
theorem rw_0_919 : mm_code 0 919 = some (.aload_n 0, 1, 0, 0, []) := rfl
theorem rw_0_920 : mm_code 0 920 = some (.iload 4, 2, 0, 0, []) := rfl
theorem rw_0_922 : mm_code 0 922 = some (.iconst 1, 1, 1, 0, []) := rfl
theorem rw_0_923 : mm_code 0 923 = some (.iadd, 1, 0, 0, []) := rfl
theorem rw_0_924 : mm_code 0 924 = some (.iaload, 1, 0, 0, []) := rfl
theorem rw_0_925 : mm_code 0 925 = some (.aload_n 0, 1, 0, 0, []) := rfl
theorem rw_0_926 : mm_code 0 926 = some (.iload 4, 2, 0, 0, []) := rfl
theorem rw_0_928 : mm_code 0 928 = some (.iconst 2, 1, 2, 0, []) := rfl
theorem rw_0_929 : mm_code 0 929 = some (.iadd, 1, 0, 0, []) := rfl
theorem rw_0_930 : mm_code 0 930 = some (.iaload, 1, 0, 0, []) := rfl
theorem rw_0_931 : mm_code 0 931 = some (.i2l, 1, 0, 0, []) := rfl
theorem rw_0_932 : mm_code 0 932 = some (.bipush 32, 2, 32, 0, []) := rfl
theorem rw_0_934 : mm_code 0 934 = some (.lshl, 1, 0, 0, []) := rfl
theorem rw_0_935 : mm_code 0 935 = some (.aload_n 0, 1, 0, 0, []) := rfl
theorem rw_0_936 : mm_code 0 936 = some (.iload 4, 2, 0, 0, []) := rfl
theorem rw_0_938 : mm_code 0 938 = some (.iconst 3, 1, 3, 0, []) := rfl
theorem rw_0_939 : mm_code 0 939 = some (.iadd, 1, 0, 0, []) := rfl
theorem rw_0_940 : mm_code 0 940 = some (.iaload, 1, 0, 0, []) := rfl
theorem rw_0_941 : mm_code 0 941 = some (.i2l, 1, 0, 0, []) := rfl
theorem rw_0_942 : mm_code 0 942 = some (.ldc2_w 113, 3, 4294967295, 0, [45]) := rfl
theorem rw_0_945 : mm_code 0 945 = some (.land, 1, 0, 0, []) := rfl
theorem rw_0_946 : mm_code 0 946 = some (.lor, 1, 0, 0, []) := rfl
theorem rw_0_947 : mm_code 0 947 = some (.invokevirtual 115, 3, 129, 3, [46, 0]) := rfl
theorem rw_0_950 : mm_code 0 950 = some (.aload_n 2, 1, 0, 0, []) := rfl
theorem rw_0_951 : mm_code 0 951 = some (.aload_n 0, 1, 0, 0, []) := rfl
theorem rw_0_952 : mm_code 0 952 = some (.iload 4, 2, 0, 0, []) := rfl
theorem rw_0_954 : mm_code 0 954 = some (.iconst 1, 1, 1, 0, []) := rfl
theorem rw_0_955 : mm_code 0 955 = some (.iadd, 1, 0, 0, []) := rfl
theorem rw_0_956 : mm_code 0 956 = some (.iaload, 1, 0, 0, []) := rfl
theorem rw_0_957 : mm_code 0 957 = some (.aload_n 0, 1, 0, 0, []) := rfl
theorem rw_0_958 : mm_code 0 958 = some (.iload 4, 2, 0, 0, []) := rfl
theorem rw_0_960 : mm_code 0 960 = some (.iconst 2, 1, 2, 0, []) := rfl
theorem rw_0_961 : mm_code 0 961 = some (.iadd, 1, 0, 0, []) := rfl
theorem rw_0_962 : mm_code 0 962 = some (.iaload, 1, 0, 0, []) := rfl
theorem rw_0_963 : mm_code 0 963 = some (.i2l, 1, 0, 0, []) := rfl
theorem rw_0_964 : mm_code 0 964 = some (.bipush 32, 2, 32, 0, []) := rfl
theorem rw_0_966 : mm_code 0 966 = some (.lshl, 1, 0, 0, []) := rfl
theorem rw_0_967 : mm_code 0 967 = some (.aload_n 0, 1, 0, 0, []) := rfl
theorem rw_0_968 : mm_code 0 968 = some (.iload 4, 2, 0, 0, []) := rfl
theorem rw_0_970 : mm_code 0 970 = some (.iconst 3, 1, 3, 0, []) := rfl
theorem rw_0_971 : mm_code 0 971 = some (.iadd, 1, 0, 0, []) := rfl
theorem rw_0_972 : mm_code 0 972 = some (.iaload, 1, 0, 0, []) := rfl
theorem rw_0_973 : mm_code 0 973 = some (.i2l, 1, 0, 0, []) := rfl
theorem rw_0_974 : mm_code 0 974 = some (.ldc2_w 113, 3, 4294967295, 0, [45]) := rfl
theorem rw_0_977 : mm_code 0 977 = some (.land, 1, 0, 0, []) := rfl
theorem rw_0_978 : mm_code 0 978 = some (.lor, 1, 0, 0, []) := rfl
theorem rw_0_979 : mm_code 0 979 = some (.invokevirtual 119, 3, 208, 3, [47, 0]) := rfl
theorem rw_0_982 : mm_code 0 982 = some (.if_icmp .eq 363, 3, 1345, 0, []) := rfl
theorem rw_0_987 : mm_code 0 987 = some (.aload_n 1, 1, 0, 0, []) := rfl
theorem rw_0_988 : mm_code 0 988 = some (.invokevirtual 120, 3, 130, 1, [48, 0]) := rfl
theorem rw_0_991 : mm_code 0 991 = some (.aload_n 2, 1, 0, 0, []) := rfl
theorem rw_0_992 : mm_code 0 992 = some (.invokevirtual 123, 3, 209, 1, [49, 0]) := rfl
theorem rw_0_995 : mm_code 0 995 = some (.if_icmp .eq 350, 3, 1345, 0, []) := rfl
theorem rw_0_1000 : mm_code 0 1000 = some (.aload_n 1, 1, 0, 0, []) := rfl
theorem rw_0_1001 : mm_code 0 1001 = some (.aload_n 0, 1, 0, 0, []) := rfl
theorem rw_0_1002 : mm_code 0 1002 = some (.iload 4, 2, 0, 0, []) := rfl
theorem rw_0_1004 : mm_code 0 1004 = some (.iconst 1, 1, 1, 0, []) := rfl
theorem rw_0_1005 : mm_code 0 1005 = some (.iadd, 1, 0, 0, []) := rfl
theorem rw_0_1006 : mm_code 0 1006 = some (.iaload, 1, 0, 0, []) := rfl
theorem rw_0_1007 : mm_code 0 1007 = some (.aload_n 0, 1, 0, 0, []) := rfl
theorem rw_0_1008 : mm_code 0 1008 = some (.iload 4, 2, 0, 0, []) := rfl
theorem rw_0_1010 : mm_code 0 1010 = some (.iconst 2, 1, 2, 0, []) := rfl
theorem rw_0_1011 : mm_code 0 1011 = some (.iadd, 1, 0, 0, []) := rfl
theorem rw_0_1012 : mm_code 0 1012 = some (.iaload, 1, 0, 0, []) := rfl
theorem rw_0_1013 : mm_code 0 1013 = some (.invokevirtual 124, 3, 131, 3, [50, 0]) := rfl
theorem rw_0_1016 : mm_code 0 1016 = some (.aload_n 2, 1, 0, 0, []) := rfl
theorem rw_0_1017 : mm_code 0 1017 = some (.aload_n 0, 1, 0, 0, []) := rfl
theorem rw_0_1018 : mm_code 0 1018 = some (.iload 4, 2, 0, 0, []) := rfl
theorem rw_0_1020 : mm_code 0 1020 = some (.iconst 1, 1, 1, 0, []) := rfl
theorem rw_0_1021 : mm_code 0 1021 = some (.iadd, 1, 0, 0, []) := rfl
theorem rw_0_1022 : mm_code 0 1022 = some (.iaload, 1, 0, 0, []) := rfl
theorem rw_0_1023 : mm_code 0 1023 = some (.aload_n 0, 1, 0, 0, []) := rfl
theorem rw_0_1024 : mm_code 0 1024 = some (.iload 4, 2, 0, 0, []) := rfl
theorem rw_0_1026 : mm_code 0 1026 = some (.iconst 2, 1, 2, 0, []) := rfl
theorem rw_0_1027 : mm_code 0 1027 = some (.iadd, 1, 0, 0, []) := rfl
theorem rw_0_1028 : mm_code 0 1028 = some (.iaload, 1, 0, 0, []) := rfl
theorem rw_0_1029 : mm_code 0 1029 = some (.invokevirtual 127, 3, 229, 3, [51, 0]) := rfl
theorem rw_0_1032 : mm_code 0 1032 = some (.if_icmp .eq 313, 3, 1345, 0, []) := rfl
theorem rw_0_1037 : mm_code 0 1037 = some (.aload_n 1, 1, 0, 0, []) := rfl
theorem rw_0_1038 : mm_code 0 1038 = some (.aload_n 0, 1, 0, 0, []) := rfl
theorem rw_0_1039 : mm_code 0 1039 = some (.iload 4, 2, 0, 0, []) := rfl
theorem rw_0_1041 : mm_code 0 1041 = some (.iconst 1, 1, 1, 0, []) := rfl
theorem rw_0_1042 : mm_code 0 1042 = some (.iadd, 1, 0, 0, []) := rfl
theorem rw_0_1043 : mm_code 0 1043 = some (.iaload, 1, 0, 0, []) := rfl
theorem rw_0_1044 : mm_code 0 1044 = some (.aload_n 0, 1, 0, 0, []) := rfl
theorem rw_0_1045 : mm_code 0 1045 = some (.iload 4, 2, 0, 0, []) := rfl
theorem rw_0_1047 : mm_code 0 1047 = some (.iconst 2, 1, 2, 0, []) := rfl
theorem rw_0_1048 : mm_code 0 1048 = some (.iadd, 1, 0, 0, []) := rfl
theorem rw_0_1049 : mm_code 0 1049 = some (.iaload, 1, 0, 0, []) := rfl
theorem rw_0_1050 : mm_code 0 1050 = some (.aload_n 0, 1, 0, 0, []) := rfl
theorem rw_0_1051 : mm_code 0 1051 = some (.iload 4, 2, 0, 0, []) := rfl
theorem rw_0_1053 : mm_code 0 1053 = some (.iconst 3, 1, 3, 0, []) := rfl
theorem rw_0_1054 : mm_code 0 1054 = some (.iadd, 1, 0, 0, []) := rfl
theorem rw_0_1055 : mm_code 0 1055 = some (.iaload, 1, 0, 0, []) := rfl
theorem rw_0_1056 : mm_code 0 1056 = some (.invokevirtual 128, 3, 132, 4, [52, 0]) := rfl
theorem rw_0_1059 : mm_code 0 1059 = some (.aload_n 2, 1, 0, 0, []) := rfl
theorem rw_0_1060 : mm_code 0 1060 = some (.aload_n 0, 1, 0, 0, []) := rfl
theorem rw_0_1061 : mm_code 0 1061 = some (.iload 4, 2, 0, 0, []) := rfl
theorem rw_0_1063 : mm_code 0 1063 = some (.iconst 1, 1, 1, 0, []) := rfl
theorem rw_0_1064 : mm_code 0 1064 = some (.iadd, 1, 0, 0, []) := rfl
theorem rw_0_1065 : mm_code 0 1065 = some (.iaload, 1, 0, 0, []) := rfl
theorem rw_0_1066 : mm_code 0 1066 = some (.aload_n 0, 1, 0, 0, []) := rfl
theorem rw_0_1067 : mm_code 0 1067 = some (.iload 4, 2, 0, 0, []) := rfl
theorem rw_0_1069 : mm_code 0 1069 = some (.iconst 2, 1, 2, 0, []) := rfl
theorem rw_0_1070 : mm_code 0 1070 = some (.iadd, 1, 0, 0, []) := rfl
theorem rw_0_1071 : mm_code 0 1071 = some (.iaload, 1, 0, 0, []) := rfl
theorem rw_0_1072 : mm_code 0 1072 = some (.aload_n 0, 1, 0, 0, []) := rfl
theorem rw_0_1073 : mm_code 0 1073 = some (.iload 4, 2, 0, 0, []) := rfl
theorem rw_0_1075 : mm_code 0 1075 = some (.iconst 3, 1, 3, 0, []) := rfl
theorem rw_0_1076 : mm_code 0 1076 = some (.iadd, 1, 0, 0, []) := rfl
theorem rw_0_1077 : mm_code 0 1077 = some (.iaload, 1, 0, 0, []) := rfl
theorem rw_0_1078 : mm_code 0 1078 = some (.invokevirtual 132, 3, 233, 4, [53, 0]) := rfl
theorem rw_0_1081 : mm_code 0 1081 = some (.lcmp, 1, 0, 0, []) := rfl
theorem rw_0_1082 : mm_code 0 1082 = some (.ifCond .eq 263, 3, 1345, 0, []) := rfl
theorem rw_0_1087 : mm_code 0 1087 = some (.aload_n 1, 1, 0, 0, []) := rfl
theorem rw_0_1088 : mm_code 0 1088 = some (.aload_n 0, 1, 0, 0, []) := rfl
theorem rw_0_1089 : mm_code 0 1089 = some (.iload 4, 2, 0, 0, []) := rfl
theorem rw_0_1091 : mm_code 0 1091 = some (.iconst 1, 1, 1, 0, []) := rfl
theorem rw_0_1092 : mm_code 0 1092 = some (.iadd, 1, 0, 0, []) := rfl
theorem rw_0_1093 : mm_code 0 1093 = some (.iaload, 1, 0, 0, []) := rfl
theorem rw_0_1094 : mm_code 0 1094 = some (.aload_n 0, 1, 0, 0, []) := rfl
theorem rw_0_1095 : mm_code 0 1095 = some (.iload 4, 2, 0, 0, []) := rfl
theorem rw_0_1097 : mm_code 0 1097 = some (.iconst 2, 1, 2, 0, []) := rfl
theorem rw_0_1098 : mm_code 0 1098 = some (.iadd, 1, 0, 0, []) := rfl
theorem rw_0_1099 : mm_code 0 1099 = some (.iaload, 1, 0, 0, []) := rfl
theorem rw_0_1100 : mm_code 0 1100 = some (.invokevirtual 133, 3, 133, 3, [54, 0]) := rfl
theorem rw_0_1103 : mm_code 0 1103 = some (.aload_n 2, 1, 0, 0, []) := rfl
theorem rw_0_1104 : mm_code 0 1104 = some (.aload_n 0, 1, 0, 0, []) := rfl
theorem rw_0_1105 : mm_code 0 1105 = some (.iload 4, 2, 0, 0, []) := rfl
theorem rw_0_1107 : mm_code 0 1107 = some (.iconst 1, 1, 1, 0, []) := rfl
theorem rw_0_1108 : mm_code 0 1108 = some (.iadd, 1, 0, 0, []) := rfl
theorem rw_0_1109 : mm_code 0 1109 = some (.iaload, 1, 0, 0, []) := rfl
theorem rw_0_1110 : mm_code 0 1110 = some (.aload_n 0, 1, 0, 0, []) := rfl
theorem rw_0_1111 : mm_code 0 1111 = some (.iload 4, 2, 0, 0, []) := rfl
theorem rw_0_1113 : mm_code 0 1113 = some (.iconst 2, 1, 2, 0, []) := rfl
theorem rw_0_1114 : mm_code 0 1114 = some (.iadd, 1, 0, 0, []) := rfl
theorem rw_0_1115 : mm_code 0 1115 = some (.iaload, 1, 0, 0, []) := rfl
theorem rw_0_1116 : mm_code 0 1116 = some (.invokevirtual 136, 3, 235, 3, [55, 0]) := rfl
theorem rw_0_1119 : mm_code 0 1119 = some (.if_icmp .eq 226, 3, 1345, 0, []) := rfl
theorem rw_0_1124 : mm_code 0 1124 = some (.aload_n 1, 1, 0, 0, []) := rfl
theorem rw_0_1125 : mm_code 0 1125 = some (.aload_n 0, 1, 0, 0, []) := rfl
theorem rw_0_1126 : mm_code 0 1126 = some (.iload 4, 2, 0, 0, []) := rfl
theorem rw_0_1128 : mm_code 0 1128 = some (.iconst 1, 1, 1, 0, []) := rfl
theorem rw_0_1129 : mm_code 0 1129 = some (.iadd, 1, 0, 0, []) := rfl
theorem rw_0_1130 : mm_code 0 1130 = some (.iaload, 1, 0, 0, []) := rfl
theorem rw_0_1131 : mm_code 0 1131 = some (.aload_n 0, 1, 0, 0, []) := rfl
theorem rw_0_1132 : mm_code 0 1132 = some (.iload 4, 2, 0, 0, []) := rfl
theorem rw_0_1134 : mm_code 0 1134 = some (.iconst 2, 1, 2, 0, []) := rfl
theorem rw_0_1135 : mm_code 0 1135 = some (.iadd, 1, 0, 0, []) := rfl
theorem rw_0_1136 : mm_code 0 1136 = some (.iaload, 1, 0, 0, []) := rfl
theorem rw_0_1137 : mm_code 0 1137 = some (.invokevirtual 137, 3, 134, 3, [56, 0]) := rfl
theorem rw_0_1140 : mm_code 0 1140 = some (.aload_n 2, 1, 0, 0, []) := rfl
theorem rw_0_1141 : mm_code 0 1141 = some (.aload_n 0, 1, 0, 0, []) := rfl
theorem rw_0_1142 : mm_code 0 1142 = some (.iload 4, 2, 0, 0, []) := rfl
theorem rw_0_1144 : mm_code 0 1144 = some (.iconst 1, 1, 1, 0, []) := rfl
theorem rw_0_1145 : mm_code 0 1145 = some (.iadd, 1, 0, 0, []) := rfl
theorem rw_0_1146 : mm_code 0 1146 = some (.iaload, 1, 0, 0, []) := rfl
theorem rw_0_1147 : mm_code 0 1147 = some (.aload_n 0, 1, 0, 0, []) := rfl
theorem rw_0_1148 : mm_code 0 1148 = some (.iload 4, 2, 0, 0, []) := rfl
theorem rw_0_1150 : mm_code 0 1150 = some (.iconst 2, 1, 2, 0, []) := rfl
theorem rw_0_1151 : mm_code 0 1151 = some (.iadd, 1, 0, 0, []) := rfl
theorem rw_0_1152 : mm_code 0 1152 = some (.iaload, 1, 0, 0, []) := rfl
theorem rw_0_1153 : mm_code 0 1153 = some (.invokevirtual 140, 3, 237, 3, [57, 0]) := rfl
theorem rw_0_1156 : mm_code 0 1156 = some (.if_icmp .eq 189, 3, 1345, 0, []) := rfl
theorem rw_0_1161 : mm_code 0 1161 = some (.aload_n 1, 1, 0, 0, []) := rfl
theorem rw_0_1162 : mm_code 0 1162 = some (.aload_n 0, 1, 0, 0, []) := rfl
theorem rw_0_1163 : mm_code 0 1163 = some (.iload 4, 2, 0, 0, []) := rfl
theorem rw_0_1165 : mm_code 0 1165 = some (.iconst 1, 1, 1, 0, []) := rfl
theorem rw_0_1166 : mm_code 0 1166 = some (.iadd, 1, 0, 0, []) := rfl
theorem rw_0_1167 : mm_code 0 1167 = some (.iaload, 1, 0, 0, []) := rfl
theorem rw_0_1168 : mm_code 0 1168 = some (.aload_n 0, 1, 0, 0, []) := rfl
theorem rw_0_1169 : mm_code 0 1169 = some (.iload 4, 2, 0, 0, []) := rfl
theorem rw_0_1171 : mm_code 0 1171 = some (.iconst 2, 1, 2, 0, []) := rfl
theorem rw_0_1172 : mm_code 0 1172 = some (.iadd, 1, 0, 0, []) := rfl
theorem rw_0_1173 : mm_code 0 1173 = some (.iaload, 1, 0, 0, []) := rfl
theorem rw_0_1174 : mm_code 0 1174 = some (.aload_n 0, 1, 0, 0, []) := rfl
theorem rw_0_1175 : mm_code 0 1175 = some (.iload 4, 2, 0, 0, []) := rfl
theorem rw_0_1177 : mm_code 0 1177 = some (.iconst 3, 1, 3, 0, []) := rfl
theorem rw_0_1178 : mm_code 0 1178 = some (.iadd, 1, 0, 0, []) := rfl
theorem rw_0_1179 : mm_code 0 1179 = some (.iaload, 1, 0, 0, []) := rfl
theorem rw_0_1180 : mm_code 0 1180 = some (.aload_n 0, 1, 0, 0, []) := rfl
theorem rw_0_1181 : mm_code 0 1181 = some (.iload 4, 2, 0, 0, []) := rfl
theorem rw_0_1183 : mm_code 0 1183 = some (.iconst 4, 1, 4, 0, []) := rfl
theorem rw_0_1184 : mm_code 0 1184 = some (.iadd, 1, 0, 0, []) := rfl
theorem rw_0_1185 : mm_code 0 1185 = some (.iaload, 1, 0, 0, []) := rfl
theorem rw_0_1186 : mm_code 0 1186 = some (.aload_n 0, 1, 0, 0, []) := rfl
theorem rw_0_1187 : mm_code 0 1187 = some (.iload 4, 2, 0, 0, []) := rfl
theorem rw_0_1189 : mm_code 0 1189 = some (.iconst 5, 1, 5, 0, []) := rfl
theorem rw_0_1190 : mm_code 0 1190 = some (.iadd, 1, 0, 0, []) := rfl
theorem rw_0_1191 : mm_code 0 1191 = some (.iaload, 1, 0, 0, []) := rfl
theorem rw_0_1192 : mm_code 0 1192 = some (.invokevirtual 141, 3, 135, 6, [58, 0]) := rfl
theorem rw_0_1195 : mm_code 0 1195 = some (.aload_n 2, 1, 0, 0, []) := rfl
theorem rw_0_1196 : mm_code 0 1196 = some (.aload_n 0, 1, 0, 0, []) := rfl
theorem rw_0_1197 : mm_code 0 1197 = some (.iload 4, 2, 0, 0, []) := rfl
theorem rw_0_1199 : mm_code 0 1199 = some (.iconst 1, 1, 1, 0, []) := rfl
theorem rw_0_1200 : mm_code 0 1200 = some (.iadd, 1, 0, 0, []) := rfl
theorem rw_0_1201 : mm_code 0 1201 = some (.iaload, 1, 0, 0, []) := rfl
theorem rw_0_1202 : mm_code 0 1202 = some (.aload_n 0, 1, 0, 0, []) := rfl
theorem rw_0_1203 : mm_code 0 1203 = some (.iload 4, 2, 0, 0, []) := rfl
theorem rw_0_1205 : mm_code 0 1205 = some (.iconst 2, 1, 2, 0, []) := rfl
theorem rw_0_1206 : mm_code 0 1206 = some (.iadd, 1, 0, 0, []) := rfl
theorem rw_0_1207 : mm_code 0 1207 = some (.iaload, 1, 0, 0, []) := rfl
theorem rw_0_1208 : mm_code 0 1208 = some (.aload_n 0, 1, 0, 0, []) := rfl
theorem rw_0_1209 : mm_code 0 1209 = some (.iload 4, 2, 0, 0, []) := rfl
theorem rw_0_1211 : mm_code 0 1211 = some (.iconst 3, 1, 3, 0, []) := rfl
theorem rw_0_1212 : mm_code 0 1212 = some (.iadd, 1, 0, 0, []) := rfl
theorem rw_0_1213 : mm_code 0 1213 = some (.iaload, 1, 0, 0, []) := rfl
theorem rw_0_1214 : mm_code 0 1214 = some (.aload_n 0, 1, 0, 0, []) := rfl
theorem rw_0_1215 : mm_code 0 1215 = some (.iload 4, 2, 0, 0, []) := rfl
theorem rw_0_1217 : mm_code 0 1217 = some (.iconst 4, 1, 4, 0, []) := rfl
theorem rw_0_1218 : mm_code 0 1218 = some (.iadd, 1, 0, 0, []) := rfl
theorem rw_0_1219 : mm_code 0 1219 = some (.iaload, 1, 0, 0, []) := rfl
theorem rw_0_1220 : mm_code 0 1220 = some (.aload_n 0, 1, 0, 0, []) := rfl
theorem rw_0_1221 : mm_code 0 1221 = some (.iload 4, 2, 0, 0, []) := rfl
theorem rw_0_1223 : mm_code 0 1223 = some (.iconst 5, 1, 5, 0, []) := rfl
theorem rw_0_1224 : mm_code 0 1224 = some (.iadd, 1, 0, 0, []) := rfl
theorem rw_0_1225 : mm_code 0 1225 = some (.iaload, 1, 0, 0, []) := rfl
theorem rw_0_1226 : mm_code 0 1226 = some (.invokevirtual 144, 3, 238, 6, [59, 0]) := rfl
theorem rw_0_1229 : mm_code 0 1229 = some (.if_icmp .eq 116, 3, 1345, 0, []) := rfl
theorem rw_0_1234 : mm_code 0 1234 = some (.aload_n 1, 1, 0, 0, []) := rfl
theorem rw_0_1235 : mm_code 0 1235 = some (.aload_n 0, 1, 0, 0, []) := rfl
theorem rw_0_1236 : mm_code 0 1236 = some (.iload 4, 2, 0, 0, []) := rfl
theorem rw_0_1238 : mm_code 0 1238 = some (.iconst 1, 1, 1, 0, []) := rfl
theorem rw_0_1239 : mm_code 0 1239 = some (.iadd, 1, 0, 0, []) := rfl
theorem rw_0_1240 : mm_code 0 1240 = some (.iaload, 1, 0, 0, []) := rfl
theorem rw_0_1241 : mm_code 0 1241 = some (.aload_n 0, 1, 0, 0, []) := rfl
theorem rw_0_1242 : mm_code 0 1242 = some (.iload 4, 2, 0, 0, []) := rfl
theorem rw_0_1244 : mm_code 0 1244 = some (.iconst 2, 1, 2, 0, []) := rfl
theorem rw_0_1245 : mm_code 0 1245 = some (.iadd, 1, 0, 0, []) := rfl
theorem rw_0_1246 : mm_code 0 1246 = some (.iaload, 1, 0, 0, []) := rfl
theorem rw_0_1247 : mm_code 0 1247 = some (.invokevirtual 145, 3, 136, 3, [60, 0]) := rfl
theorem rw_0_1250 : mm_code 0 1250 = some (.aload_n 2, 1, 0, 0, []) := rfl
theorem rw_0_1251 : mm_code 0 1251 = some (.aload_n 0, 1, 0, 0, []) := rfl
theorem rw_0_1252 : mm_code 0 1252 = some (.iload 4, 2, 0, 0, []) := rfl
theorem rw_0_1254 : mm_code 0 1254 = some (.iconst 1, 1, 1, 0, []) := rfl
theorem rw_0_1255 : mm_code 0 1255 = some (.iadd, 1, 0, 0, []) := rfl
theorem rw_0_1256 : mm_code 0 1256 = some (.iaload, 1, 0, 0, []) := rfl
theorem rw_0_1257 : mm_code 0 1257 = some (.aload_n 0, 1, 0, 0, []) := rfl
theorem rw_0_1258 : mm_code 0 1258 = some (.iload 4, 2, 0, 0, []) := rfl
theorem rw_0_1260 : mm_code 0 1260 = some (.iconst 2, 1, 2, 0, []) := rfl
theorem rw_0_1261 : mm_code 0 1261 = some (.iadd, 1, 0, 0, []) := rfl
theorem rw_0_1262 : mm_code 0 1262 = some (.iaload, 1, 0, 0, []) := rfl
theorem rw_0_1263 : mm_code 0 1263 = some (.invokevirtual 148, 3, 242, 3, [61, 0]) := rfl
theorem rw_0_1266 : mm_code 0 1266 = some (.if_icmp .eq 79, 3, 1345, 0, []) := rfl
theorem rw_0_1271 : mm_code 0 1271 = some (.aload_n 1, 1, 0, 0, []) := rfl
theorem rw_0_1272 : mm_code 0 1272 = some (.aload_n 0, 1, 0, 0, []) := rfl
theorem rw_0_1273 : mm_code 0 1273 = some (.iload 4, 2, 0, 0, []) := rfl
theorem rw_0_1275 : mm_code 0 1275 = some (.iconst 1, 1, 1, 0, []) := rfl
theorem rw_0_1276 : mm_code 0 1276 = some (.iadd, 1, 0, 0, []) := rfl
theorem rw_0_1277 : mm_code 0 1277 = some (.iaload, 1, 0, 0, []) := rfl
theorem rw_0_1278 : mm_code 0 1278 = some (.aload_n 0, 1, 0, 0, []) := rfl
theorem rw_0_1279 : mm_code 0 1279 = some (.iload 4, 2, 0, 0, []) := rfl
theorem rw_0_1281 : mm_code 0 1281 = some (.iconst 2, 1, 2, 0, []) := rfl
theorem rw_0_1282 : mm_code 0 1282 = some (.iadd, 1, 0, 0, []) := rfl
theorem rw_0_1283 : mm_code 0 1283 = some (.iaload, 1, 0, 0, []) := rfl
theorem rw_0_1284 : mm_code 0 1284 = some (.aload_n 0, 1, 0, 0, []) := rfl
theorem rw_0_1285 : mm_code 0 1285 = some (.iload 4, 2, 0, 0, []) := rfl
theorem rw_0_1287 : mm_code 0 1287 = some (.iconst 3, 1, 3, 0, []) := rfl
theorem rw_0_1288 : mm_code 0 1288 = some (.iadd, 1, 0, 0, []) := rfl
theorem rw_0_1289 : mm_code 0 1289 = some (.iaload, 1, 0, 0, []) := rfl
theorem rw_0_1290 : mm_code 0 1290 = some (.invokevirtual 149, 3, 137, 4, [62, 0]) := rfl
theorem rw_0_1293 : mm_code 0 1293 = some (.aload_n 2, 1, 0, 0, []) := rfl
theorem rw_0_1294 : mm_code 0 1294 = some (.aload_n 0, 1, 0, 0, []) := rfl
theorem rw_0_1295 : mm_code 0 1295 = some (.iload 4, 2, 0, 0, []) := rfl
theorem rw_0_1297 : mm_code 0 1297 = some (.iconst 1, 1, 1, 0, []) := rfl
theorem rw_0_1298 : mm_code 0 1298 = some (.iadd, 1, 0, 0, []) := rfl
theorem rw_0_1299 : mm_code 0 1299 = some (.iaload, 1, 0, 0, []) := rfl
theorem rw_0_1300 : mm_code 0 1300 = some (.aload_n 0, 1, 0, 0, []) := rfl
theorem rw_0_1301 : mm_code 0 1301 = some (.iload 4, 2, 0, 0, []) := rfl
theorem rw_0_1303 : mm_code 0 1303 = some (.iconst 2, 1, 2, 0, []) := rfl
theorem rw_0_1304 : mm_code 0 1304 = some (.iadd, 1, 0, 0, []) := rfl
theorem rw_0_1305 : mm_code 0 1305 = some (.iaload, 1, 0, 0, []) := rfl
theorem rw_0_1306 : mm_code 0 1306 = some (.aload_n 0, 1, 0, 0, []) := rfl
theorem rw_0_1307 : mm_code 0 1307 = some (.iload 4, 2, 0, 0, []) := rfl
theorem rw_0_1309 : mm_code 0 1309 = some (.iconst 3, 1, 3, 0, []) := rfl
theorem rw_0_1310 : mm_code 0 1310 = some (.iadd, 1, 0, 0, []) := rfl
theorem rw_0_1311 : mm_code 0 1311 = some (.iaload, 1, 0, 0, []) := rfl
theorem rw_0_1312 : mm_code 0 1312 = some (.invokevirtual 152, 3, 245, 4, [63, 0]) := rfl
theorem rw_0_1315 : mm_code 0 1315 = some (.if_icmp .eq 30, 3, 1345, 0, []) := rfl
theorem rw_0_1320 : mm_code 0 1320 = some (.aload_n 1, 1, 0, 0, []) := rfl
theorem rw_0_1321 : mm_code 0 1321 = some (.aload_n 0, 1, 0, 0, []) := rfl
theorem rw_0_1322 : mm_code 0 1322 = some (.iload 4, 2, 0, 0, []) := rfl
theorem rw_0_1324 : mm_code 0 1324 = some (.iconst 1, 1, 1, 0, []) := rfl
theorem rw_0_1325 : mm_code 0 1325 = some (.iadd, 1, 0, 0, []) := rfl
theorem rw_0_1326 : mm_code 0 1326 = some (.iaload, 1, 0, 0, []) := rfl
theorem rw_0_1327 : mm_code 0 1327 = some (.invokevirtual 153, 3, 138, 2, [64, 0]) := rfl
theorem rw_0_1330 : mm_code 0 1330 = some (.aload_n 2, 1, 0, 0, []) := rfl
theorem rw_0_1331 : mm_code 0 1331 = some (.aload_n 0, 1, 0, 0, []) := rfl
theorem rw_0_1332 : mm_code 0 1332 = some (.iload 4, 2, 0, 0, []) := rfl
theorem rw_0_1334 : mm_code 0 1334 = some (.iconst 1, 1, 1, 0, []) := rfl
theorem rw_0_1335 : mm_code 0 1335 = some (.iadd, 1, 0, 0, []) := rfl
theorem rw_0_1336 : mm_code 0 1336 = some (.iaload, 1, 0, 0, []) := rfl
theorem rw_0_1337 : mm_code 0 1337 = some (.invokevirtual 156, 3, 246, 2, [65, 0]) := rfl
theorem rw_0_1340 : mm_code 0 1340 = some (.if_icmp .eq 5, 3, 1345, 0, []) := rfl
theorem rw_0_1345 : mm_code 0 1345 = some (.iinc 4 6, 3, 6, 0, []) := rfl
theorem rw_0_1348 : mm_code 0 1348 = some (.goto (-1325), 3, 23, 0, []) := rfl
theorem rw_0_1351 : mm_code 0 1351 = some (.iconst 1, 1, 1, 0, []) := rfl
theorem rw_0_1352 : mm_code 0 1352 = some (.ireturn, 1, 1, 0, []) := rfl
theorem rw_27_0 : mm_code 27 0 = some (.iconst 0, 1, 0, 0, []) := rfl
theorem rw_27_1 : mm_code 27 1 = some (.istore 4, 2, 0, 0, []) := rfl
theorem rw_27_3 : mm_code 27 3 = some (.iconst 0, 1, 0, 0, []) := rfl
theorem rw_27_4 : mm_code 27 4 = some (.istore 5, 2, 0, 0, []) := rfl
theorem rw_27_6 : mm_code 27 6 = some (.iload 5, 2, 0, 0, []) := rfl
theorem rw_27_8 : mm_code 27 8 = some (.aload_n 0, 1, 0, 0, []) := rfl
theorem rw_27_9 : mm_code 27 9 = some (.getfield 16, 3, 4, 1, [3, 3]) := rfl
theorem rw_27_12 : mm_code 27 12 = some (.iload_n 1, 1, 0, 0, []) := rfl
theorem rw_27_13 : mm_code 27 13 = some (.iaload, 1, 0, 0, []) := rfl
theorem rw_27_14 : mm_code 27 14 = some (.if_icmp .ge 39, 3, 53, 0, []) := rfl
theorem rw_27_53 : mm_code 27 53 = some (.iload 4, 2, 0, 0, []) := rfl
theorem rw_27_55 : mm_code 27 55 = some (.ireturn, 1, 0, 0, []) := rfl
theorem rw_43_0 : mm_code 43 0 = some (.iload_n 1, 1, 0, 0, []) := rfl
theorem rw_43_1 : mm_code 43 1 = some (.ifCond .lt 15, 3, 16, 0, []) := rfl
theorem rw_43_4 : mm_code 43 4 = some (.iload_n 1, 1, 0, 0, []) := rfl
theorem rw_43_5 : mm_code 43 5 = some (.aload_n 0, 1, 0, 0, []) := rfl
theorem rw_43_6 : mm_code 43 6 = some (.getfield 44, 3, 5, 2, [0, 11]) := rfl
theorem rw_43_9 : mm_code 43 9 = some (.if_icmp .ge 7, 3, 16, 0, []) := rfl
theorem rw_43_16 : mm_code 43 16 = some (.iconst 0, 1, 0, 0, []) := rfl
theorem rw_43_17 : mm_code 43 17 = some (.ireturn, 1, 1, 0, []) := rfl
theorem rw_44_0 : mm_code 44 0 = some (.iload_n 1, 1, 0, 0, []) := rfl
theorem rw_44_1 : mm_code 44 1 = some (.ifCond .lt 15, 3, 16, 0, []) := rfl
theorem rw_44_4 : mm_code 44 4 = some (.iload_n 1, 1, 0, 0, []) := rfl
theorem rw_44_5 : mm_code 44 5 = some (.aload_n 0, 1, 0, 0, []) := rfl
theorem rw_44_6 : mm_code 44 6 = some (.getfield 47, 3, 5, 3, [0, 12]) := rfl
theorem rw_44_9 : mm_code 44 9 = some (.if_icmp .ge 7, 3, 16, 0, []) := rfl
theorem rw_44_16 : mm_code 44 16 = some (.iconst 0, 1, 0, 0, []) := rfl
theorem rw_44_17 : mm_code 44 17 = some (.ireturn, 1, 1, 0, []) := rfl
theorem rw_46_0 : mm_code 46 0 = some (.aload_n 0, 1, 0, 0, []) := rfl
theorem rw_46_1 : mm_code 46 1 = some (.iload_n 1, 1, 0, 0, []) := rfl
theorem rw_46_2 : mm_code 46 2 = some (.invokevirtual 145, 3, 43, 2, [43, 0]) := rfl
theorem rw_46_5 : mm_code 46 5 = some (.ifCond .eq 29, 3, 34, 0, []) := rfl
theorem rw_46_34 : mm_code 46 34 = some (.iconst 0, 1, 0, 0, []) := rfl
theorem rw_46_35 : mm_code 46 35 = some (.ireturn, 1, 1, 0, []) := rfl
theorem rw_49_0 : mm_code 49 0 = some (.aload_n 0, 1, 0, 0, []) := rfl
theorem rw_49_1 : mm_code 49 1 = some (.iload_n 1, 1, 0, 0, []) := rfl
theorem rw_49_2 : mm_code 49 2 = some (.iload_n 2, 1, 0, 0, []) := rfl
theorem rw_49_3 : mm_code 49 3 = some (.invokevirtual 154, 3, 46, 3, [46, 0]) := rfl
theorem rw_49_6 : mm_code 49 6 = some (.ifCond .ne 5, 3, 11, 0, []) := rfl
theorem rw_49_9 : mm_code 49 9 = some (.lconst 0, 1, 0, 0, []) := rfl
theorem rw_49_10 : mm_code 49 10 = some (.lreturn, 1, 0, 0, []) := rfl
theorem rw_52_0 : mm_code 52 0 = some (.aload_n 0, 1, 0, 0, []) := rfl
theorem rw_52_1 : mm_code 52 1 = some (.getfield 15, 3, 5, 5, [3, 2]) := rfl
theorem rw_52_4 : mm_code 52 4 = some (.aload_n 0, 1, 0, 0, []) := rfl
theorem rw_52_5 : mm_code 52 5 = some (.getfield 44, 3, 5, 2, [0, 11]) := rfl
theorem rw_52_8 : mm_code 52 8 = some (.iload_n 1, 1, 0, 0, []) := rfl
theorem rw_52_9 : mm_code 52 9 = some (.invokestatic 168, 3, 54, 3, [48, 0]) := rfl
theorem rw_52_12 : mm_code 52 12 = some (.ireturn, 1, 0, 0, []) := rfl
theorem rw_53_0 : mm_code 53 0 = some (.aload_n 0, 1, 0, 0, []) := rfl
theorem rw_53_1 : mm_code 53 1 = some (.getfield 31, 3, 5, 10, [3, 7]) := rfl
theorem rw_53_4 : mm_code 53 4 = some (.aload_n 0, 1, 0, 0, []) := rfl
theorem rw_53_5 : mm_code 53 5 = some (.getfield 47, 3, 5, 3, [0, 12]) := rfl
theorem rw_53_8 : mm_code 53 8 = some (.iload_n 1, 1, 0, 0, []) := rfl
theorem rw_53_9 : mm_code 53 9 = some (.invokestatic 168, 3, 54, 3, [48, 0]) := rfl
theorem rw_53_12 : mm_code 53 12 = some (.ireturn, 1, 0, 0, []) := rfl
theorem rw_54_0 : mm_code 54 0 = some (.iconst 0, 1, 0, 0, []) := rfl
theorem rw_54_1 : mm_code 54 1 = some (.istore_n 3, 1, 0, 0, []) := rfl
theorem rw_54_2 : mm_code 54 2 = some (.iload_n 3, 1, 0, 0, []) := rfl
theorem rw_54_3 : mm_code 54 3 = some (.iload_n 1, 1, 0, 0, []) := rfl
theorem rw_54_4 : mm_code 54 4 = some (.if_icmp .ge 24, 3, 28, 0, []) := rfl
theorem rw_54_28 : mm_code 54 28 = some (.iconst (-1), 1, 1, 1, []) := rfl
theorem rw_54_29 : mm_code 54 29 = some (.ireturn, 1, 0, 0, []) := rfl
theorem rw_77_0 : mm_code 77 0 = some (.bipush 24, 2, 24, 0, []) := rfl
theorem rw_77_2 : mm_code 77 2 = some (.istore_n 2, 1, 0, 0, []) := rfl
theorem rw_77_3 : mm_code 77 3 = some (.iload_n 2, 1, 0, 0, []) := rfl
theorem rw_77_4 : mm_code 77 4 = some (.ifCond .lt 44, 3, 48, 0, []) := rfl
theorem rw_77_7 : mm_code 77 7 = some (.aload_n 0, 1, 0, 0, []) := rfl
theorem rw_77_8 : mm_code 77 8 = some (.getfield 29, 3, 8, 1, [0, 6]) := rfl
theorem rw_77_11 : mm_code 77 11 = some (.aload_n 0, 1, 0, 0, []) := rfl
theorem rw_77_12 : mm_code 77 12 = some (.getfield 9, 3, 8, 0, [3, 1]) := rfl
theorem rw_77_15 : mm_code 77 15 = some (.arraylength, 1, 0, 0, []) := rfl
theorem rw_77_16 : mm_code 77 16 = some (.if_icmp .ge 32, 3, 48, 0, []) := rfl
theorem rw_77_19 : mm_code 77 19 = some (.aload_n 0, 1, 0, 0, []) := rfl
theorem rw_77_20 : mm_code 77 20 = some (.getfield 9, 3, 8, 0, [3, 1]) := rfl
theorem rw_77_23 : mm_code 77 23 = some (.aload_n 0, 1, 0, 0, []) := rfl
theorem rw_77_24 : mm_code 77 24 = some (.getfield 29, 3, 8, 1, [0, 6]) := rfl
theorem rw_77_27 : mm_code 77 27 = some (.iload_n 1, 1, 0, 0, []) := rfl
theorem rw_77_28 : mm_code 77 28 = some (.iload_n 2, 1, 0, 0, []) := rfl
theorem rw_77_29 : mm_code 77 29 = some (.ishr, 1, 0, 0, []) := rfl
theorem rw_77_30 : mm_code 77 30 = some (.i2b, 1, 0, 0, []) := rfl
theorem rw_77_31 : mm_code 77 31 = some (.bastore, 1, 0, 0, []) := rfl
theorem rw_77_32 : mm_code 77 32 = some (.aload_n 0, 1, 0, 0, []) := rfl
theorem rw_77_33 : mm_code 77 33 = some (.dup, 1, 0, 0, []) := rfl
theorem rw_77_34 : mm_code 77 34 = some (.getfield 29, 3, 8, 1, [0, 6]) := rfl
theorem rw_77_37 : mm_code 77 37 = some (.iconst 1, 1, 1, 0, []) := rfl
theorem rw_77_38 : mm_code 77 38 = some (.iadd, 1, 0, 0, []) := rfl
theorem rw_77_39 : mm_code 77 39 = some (.putfield 29, 3, 8, 1, [0, 6]) := rfl
theorem rw_77_42 : mm_code 77 42 = some (.iinc 2 (-8), 3, 8, 1, []) := rfl
theorem rw_77_45 : mm_code 77 45 = some (.goto (-42), 3, 3, 0, []) := rfl
theorem rw_77_48 : mm_code 77 48 = some (.return_, 1, 0, 0, []) := rfl
theorem rw_78_0 : mm_code 78 0 = some (.iload_n 1, 1, 0, 0, []) := rfl
theorem rw_78_1 : mm_code 78 1 = some (.ifCond .lt 11, 3, 12, 0, []) := rfl
theorem rw_78_4 : mm_code 78 4 = some (.iload_n 1, 1, 0, 0, []) := rfl
theorem rw_78_5 : mm_code 78 5 = some (.aload_n 0, 1, 0, 0, []) := rfl
theorem rw_78_6 : mm_code 78 6 = some (.getfield 29, 3, 8, 1, [0, 6]) := rfl
theorem rw_78_9 : mm_code 78 9 = some (.if_icmp .le 5, 3, 14, 0, []) := rfl
theorem rw_78_12 : mm_code 78 12 = some (.iconst 0, 1, 0, 0, []) := rfl
theorem rw_78_13 : mm_code 78 13 = some (.ireturn, 1, 1, 0, []) := rfl
theorem rw_110_0 : mm_code 110 0 = some (.aload_n 0, 1, 0, 0, []) := rfl
theorem rw_110_1 : mm_code 110 1 = some (.getfield 10, 3, 10, 0, [3, 2]) := rfl
theorem rw_110_4 : mm_code 110 4 = some (.getfield 89, 3, 8, 1, [0, 24]) := rfl
theorem rw_110_7 : mm_code 110 7 = some (.sipush 480, 3, 480, 0, []) := rfl
theorem rw_110_10 : mm_code 110 10 = some (.if_icmp .le 5, 3, 15, 0, []) := rfl
theorem rw_110_15 : mm_code 110 15 = some (.aload_n 0, 1, 0, 0, []) := rfl
theorem rw_110_16 : mm_code 110 16 = some (.getfield 10, 3, 10, 0, [3, 2]) := rfl
theorem rw_110_19 : mm_code 110 19 = some (.iload_n 1, 1, 0, 0, []) := rfl
theorem rw_110_20 : mm_code 110 20 = some (.invokevirtual 92, 3, 77, 2, [25, 0]) := rfl
theorem rw_110_23 : mm_code 110 23 = some (.aload_n 0, 1, 0, 0, []) := rfl
theorem rw_110_24 : mm_code 110 24 = some (.getfield 10, 3, 10, 0, [3, 2]) := rfl
theorem rw_110_27 : mm_code 110 27 = some (.iload_n 2, 1, 0, 0, []) := rfl
theorem rw_110_28 : mm_code 110 28 = some (.invokevirtual 92, 3, 77, 2, [25, 0]) := rfl
theorem rw_110_31 : mm_code 110 31 = some (.aload_n 0, 1, 0, 0, []) := rfl
theorem rw_110_32 : mm_code 110 32 = some (.getfield 10, 3, 10, 0, [3, 2]) := rfl
theorem rw_110_35 : mm_code 110 35 = some (.iload_n 3, 1, 0, 0, []) := rfl
theorem rw_110_36 : mm_code 110 36 = some (.invokevirtual 92, 3, 77, 2, [25, 0]) := rfl
theorem rw_110_39 : mm_code 110 39 = some (.aload_n 0, 1, 0, 0, []) := rfl
theorem rw_110_40 : mm_code 110 40 = some (.getfield 10, 3, 10, 0, [3, 2]) := rfl
theorem rw_110_43 : mm_code 110 43 = some (.iload 4, 2, 0, 0, []) := rfl
theorem rw_110_45 : mm_code 110 45 = some (.invokevirtual 92, 3, 77, 2, [25, 0]) := rfl
theorem rw_110_48 : mm_code 110 48 = some (.aload_n 0, 1, 0, 0, []) := rfl
theorem rw_110_49 : mm_code 110 49 = some (.getfield 10, 3, 10, 0, [3, 2]) := rfl
theorem rw_110_52 : mm_code 110 52 = some (.iload 5, 2, 0, 0, []) := rfl
theorem rw_110_54 : mm_code 110 54 = some (.invokevirtual 92, 3, 77, 2, [25, 0]) := rfl
theorem rw_110_57 : mm_code 110 57 = some (.aload_n 0, 1, 0, 0, []) := rfl
theorem rw_110_58 : mm_code 110 58 = some (.getfield 10, 3, 10, 0, [3, 2]) := rfl
theorem rw_110_61 : mm_code 110 61 = some (.getfield 89, 3, 8, 1, [0, 24]) := rfl
theorem rw_110_64 : mm_code 110 64 = some (.ireturn, 1, 0, 0, []) := rfl
theorem rw_111_0 : mm_code 111 0 = some (.aload_n 0, 1, 0, 0, []) := rfl
theorem rw_111_1 : mm_code 111 1 = some (.getfield 10, 3, 10, 0, [3, 2]) := rfl
theorem rw_111_4 : mm_code 111 4 = some (.iload_n 1, 1, 0, 0, []) := rfl
theorem rw_111_5 : mm_code 111 5 = some (.invokevirtual 96, 3, 78, 2, [26, 0]) := rfl
theorem rw_111_8 : mm_code 111 8 = some (.ifCond .ne 6, 3, 14, 0, []) := rfl
theorem rw_111_11 : mm_code 111 11 = some (.bipush (-2), 2, 2, 1, []) := rfl
theorem rw_111_13 : mm_code 111 13 = some (.ireturn, 1, 0, 0, []) := rfl
theorem rw_112_0 : mm_code 112 0 = some (.aload_n 0, 1, 0, 0, []) := rfl
theorem rw_112_1 : mm_code 112 1 = some (.getfield 10, 3, 10, 0, [3, 2]) := rfl
theorem rw_112_4 : mm_code 112 4 = some (.iload_n 1, 1, 0, 0, []) := rfl
theorem rw_112_5 : mm_code 112 5 = some (.invokevirtual 96, 3, 78, 2, [26, 0]) := rfl
theorem rw_112_8 : mm_code 112 8 = some (.ifCond .ne 6, 3, 14, 0, []) := rfl
theorem rw_112_11 : mm_code 112 11 = some (.bipush (-2), 2, 2, 1, []) := rfl
theorem rw_112_13 : mm_code 112 13 = some (.ireturn, 1, 0, 0, []) := rfl
theorem rw_113_0 : mm_code 113 0 = some (.aload_n 0, 1, 0, 0, []) := rfl
theorem rw_113_1 : mm_code 113 1 = some (.getfield 10, 3, 10, 0, [3, 2]) := rfl
theorem rw_113_4 : mm_code 113 4 = some (.iload_n 1, 1, 0, 0, []) := rfl
theorem rw_113_5 : mm_code 113 5 = some (.invokevirtual 96, 3, 78, 2, [26, 0]) := rfl
theorem rw_113_8 : mm_code 113 8 = some (.ifCond .ne 6, 3, 14, 0, []) := rfl
theorem rw_113_11 : mm_code 113 11 = some (.bipush (-2), 2, 2, 1, []) := rfl
theorem rw_113_13 : mm_code 113 13 = some (.ireturn, 1, 0, 0, []) := rfl
theorem rw_114_0 : mm_code 114 0 = some (.iload_n 1, 1, 0, 0, []) := rfl
theorem rw_114_1 : mm_code 114 1 = some (.ifCond .ne 11, 3, 12, 0, []) := rfl
theorem rw_114_4 : mm_code 114 4 = some (.aload_n 0, 1, 0, 0, []) := rfl
theorem rw_114_5 : mm_code 114 5 = some (.getfield 10, 3, 10, 0, [3, 2]) := rfl
theorem rw_114_8 : mm_code 114 8 = some (.getfield 137, 3, 8, 10, [0, 39]) := rfl
theorem rw_114_11 : mm_code 114 11 = some (.ireturn, 1, 0, 0, []) := rfl
theorem rw_114_12 : mm_code 114 12 = some (.iload_n 1, 1, 0, 0, []) := rfl
theorem rw_114_13 : mm_code 114 13 = some (.iconst 1, 1, 1, 0, []) := rfl
theorem rw_114_14 : mm_code 114 14 = some (.if_icmp .ne 13, 3, 27, 0, []) := rfl
theorem rw_114_17 : mm_code 114 17 = some (.aload_n 0, 1, 0, 0, []) := rfl
theorem rw_114_18 : mm_code 114 18 = some (.getfield 10, 3, 10, 0, [3, 2]) := rfl
theorem rw_114_21 : mm_code 114 21 = some (.getfield 140, 3, 8, 11, [0, 40]) := rfl
theorem rw_114_24 : mm_code 114 24 = some (.goto 4, 3, 28, 0, []) := rfl
theorem rw_114_27 : mm_code 114 27 = some (.iconst (-1), 1, 1, 1, []) := rfl
theorem rw_114_28 : mm_code 114 28 = some (.ireturn, 1, 0, 0, []) := rfl
theorem rw_115_0 : mm_code 115 0 = some (.iload_n 1, 1, 0, 0, []) := rfl
theorem rw_115_1 : mm_code 115 1 = some (.ifCond .ne 12, 3, 13, 0, []) := rfl
theorem rw_115_4 : mm_code 115 4 = some (.aload_n 0, 1, 0, 0, []) := rfl
theorem rw_115_5 : mm_code 115 5 = some (.getfield 68, 3, 10, 8, [3, 18]) := rfl
theorem rw_115_8 : mm_code 115 8 = some (.iload_n 2, 1, 0, 0, []) := rfl
theorem rw_115_9 : mm_code 115 9 = some (.invokevirtual 143, 3, 52, 2, [41, 0]) := rfl
theorem rw_115_12 : mm_code 115 12 = some (.ireturn, 1, 0, 0, []) := rfl
theorem rw_115_13 : mm_code 115 13 = some (.iload_n 1, 1, 0, 0, []) := rfl
theorem rw_115_14 : mm_code 115 14 = some (.iconst 1, 1, 1, 0, []) := rfl
theorem rw_115_15 : mm_code 115 15 = some (.if_icmp .ne 14, 3, 29, 0, []) := rfl
theorem rw_115_18 : mm_code 115 18 = some (.aload_n 0, 1, 0, 0, []) := rfl
theorem rw_115_19 : mm_code 115 19 = some (.getfield 68, 3, 10, 8, [3, 18]) := rfl
theorem rw_115_22 : mm_code 115 22 = some (.iload_n 2, 1, 0, 0, []) := rfl
theorem rw_115_23 : mm_code 115 23 = some (.invokevirtual 147, 3, 53, 2, [42, 0]) := rfl
theorem rw_115_26 : mm_code 115 26 = some (.goto 4, 3, 30, 0, []) := rfl
theorem rw_115_29 : mm_code 115 29 = some (.iconst (-1), 1, 1, 1, []) := rfl
theorem rw_115_30 : mm_code 115 30 = some (.ireturn, 1, 0, 0, []) := rfl
theorem rw_116_0 : mm_code 116 0 = some (.aload_n 0, 1, 0, 0, []) := rfl
theorem rw_116_1 : mm_code 116 1 = some (.getfield 68, 3, 10, 8, [3, 18]) := rfl
theorem rw_116_4 : mm_code 116 4 = some (.iload_n 1, 1, 0, 0, []) := rfl
theorem rw_116_5 : mm_code 116 5 = some (.iload_n 2, 1, 0, 0, []) := rfl
theorem rw_116_6 : mm_code 116 6 = some (.invokevirtual 178, 3, 49, 3, [43, 0]) := rfl
theorem rw_116_9 : mm_code 116 9 = some (.lreturn, 1, 0, 0, []) := rfl
theorem rw_117_0 : mm_code 117 0 = some (.aload_n 0, 1, 0, 0, []) := rfl
theorem rw_117_1 : mm_code 117 1 = some (.iload_n 1, 1, 0, 0, []) := rfl
theorem rw_117_2 : mm_code 117 2 = some (.invokevirtual 182, 3, 139, 2, [44, 0]) := rfl
theorem rw_117_5 : mm_code 117 5 = some (.ifCond .eq 14, 3, 19, 0, []) := rfl
theorem rw_117_8 : mm_code 117 8 = some (.aload_n 0, 1, 0, 0, []) := rfl
theorem rw_117_9 : mm_code 117 9 = some (.getfield 68, 3, 10, 8, [3, 18]) := rfl
theorem rw_117_12 : mm_code 117 12 = some (.iload_n 2, 1, 0, 0, []) := rfl
theorem rw_117_13 : mm_code 117 13 = some (.invokevirtual 185, 3, 44, 2, [45, 0]) := rfl
theorem rw_117_16 : mm_code 117 16 = some (.ifCond .ne 5, 3, 21, 0, []) := rfl
theorem rw_117_19 : mm_code 117 19 = some (.lconst 0, 1, 0, 0, []) := rfl
theorem rw_117_20 : mm_code 117 20 = some (.lreturn, 1, 0, 0, []) := rfl
theorem rw_119_0 : mm_code 119 0 = some (.aload_n 0, 1, 0, 0, []) := rfl
theorem rw_119_1 : mm_code 119 1 = some (.iload_n 1, 1, 0, 0, []) := rfl
theorem rw_119_2 : mm_code 119 2 = some (.invokevirtual 198, 3, 140, 2, [49, 0]) := rfl
theorem rw_119_5 : mm_code 119 5 = some (.ifCond .eq 15, 3, 20, 0, []) := rfl
theorem rw_119_20 : mm_code 119 20 = some (.iconst (-1), 1, 1, 1, []) := rfl
theorem rw_119_21 : mm_code 119 21 = some (.ireturn, 1, 0, 0, []) := rfl
theorem rw_120_0 : mm_code 120 0 = some (.aload_n 0, 1, 0, 0, []) := rfl
theorem rw_120_1 : mm_code 120 1 = some (.iload_n 1, 1, 0, 0, []) := rfl
theorem rw_120_2 : mm_code 120 2 = some (.invokevirtual 198, 3, 140, 2, [49, 0]) := rfl
theorem rw_120_5 : mm_code 120 5 = some (.ifCond .eq 14, 3, 19, 0, []) := rfl
theorem rw_120_19 : mm_code 120 19 = some (.iconst (-1), 1, 1, 1, []) := rfl
theorem rw_120_20 : mm_code 120 20 = some (.ireturn, 1, 0, 0, []) := rfl
theorem rw_121_0 : mm_code 121 0 = some (.aload_n 0, 1, 0, 0, []) := rfl
theorem rw_121_1 : mm_code 121 1 = some (.iload_n 1, 1, 0, 0, []) := rfl
theorem rw_121_2 : mm_code 121 2 = some (.invokevirtual 198, 3, 140, 2, [49, 0]) := rfl
theorem rw_121_5 : mm_code 121 5 = some (.ifCond .eq 18, 3, 23, 0, []) := rfl
theorem rw_121_23 : mm_code 121 23 = some (.iconst (-1), 1, 1, 1, []) := rfl
theorem rw_121_24 : mm_code 121 24 = some (.ireturn, 1, 0, 0, []) := rfl
theorem rw_122_0 : mm_code 122 0 = some (.aload_n 0, 1, 0, 0, []) := rfl
theorem rw_122_1 : mm_code 122 1 = some (.getfield 68, 3, 10, 8, [3, 18]) := rfl
theorem rw_122_4 : mm_code 122 4 = some (.iload_n 1, 1, 0, 0, []) := rfl
theorem rw_122_5 : mm_code 122 5 = some (.invokevirtual 185, 3, 44, 2, [45, 0]) := rfl
theorem rw_122_8 : mm_code 122 8 = some (.ifCond .eq 15, 3, 23, 0, []) := rfl
theorem rw_122_23 : mm_code 122 23 = some (.iconst (-1), 1, 1, 1, []) := rfl
theorem rw_122_24 : mm_code 122 24 = some (.ireturn, 1, 0, 0, []) := rfl
theorem rw_123_0 : mm_code 123 0 = some (.iload_n 1, 1, 0, 0, []) := rfl
theorem rw_123_1 : mm_code 123 1 = some (.ifCond .lt 14, 3, 15, 0, []) := rfl
theorem rw_123_4 : mm_code 123 4 = some (.iload_n 1, 1, 0, 0, []) := rfl
theorem rw_123_5 : mm_code 123 5 = some (.aload_n 0, 1, 0, 0, []) := rfl
theorem rw_123_6 : mm_code 123 6 = some (.getfield 19, 3, 10, 1, [3, 4]) := rfl
theorem rw_123_9 : mm_code 123 9 = some (.getfield 104, 3, 3, 0, [0, 28]) := rfl
theorem rw_123_12 : mm_code 123 12 = some (.if_icmp .lt 5, 3, 17, 0, []) := rfl
theorem rw_123_15 : mm_code 123 15 = some (.iconst (-1), 1, 1, 1, []) := rfl
theorem rw_123_16 : mm_code 123 16 = some (.ireturn, 1, 0, 0, []) := rfl
theorem rw_124_0 : mm_code 124 0 = some (.aload_n 0, 1, 0, 0, []) := rfl
theorem rw_124_1 : mm_code 124 1 = some (.iload_n 1, 1, 0, 0, []) := rfl
theorem rw_124_2 : mm_code 124 2 = some (.invokevirtual 182, 3, 139, 2, [44, 0]) := rfl
theorem rw_124_5 : mm_code 124 5 = some (.ifCond .eq 11, 3, 16, 0, []) := rfl
theorem rw_124_8 : mm_code 124 8 = some (.aload_n 0, 1, 0, 0, []) := rfl
theorem rw_124_9 : mm_code 124 9 = some (.iload_n 2, 1, 0, 0, []) := rfl
theorem rw_124_10 : mm_code 124 10 = some (.invokevirtual 198, 3, 140, 2, [49, 0]) := rfl
theorem rw_124_13 : mm_code 124 13 = some (.ifCond .ne 7, 3, 20, 0, []) := rfl
theorem rw_124_16 : mm_code 124 16 = some (.ldc2_w 212, 3, 1, 1, [53]) := rfl
theorem rw_124_19 : mm_code 124 19 = some (.lreturn, 1, 0, 0, []) := rfl
theorem rw_125_0 : mm_code 125 0 = some (.aload_n 0, 1, 0, 0, []) := rfl
theorem rw_125_1 : mm_code 125 1 = some (.iload_n 1, 1, 0, 0, []) := rfl
theorem rw_125_2 : mm_code 125 2 = some (.invokevirtual 182, 3, 139, 2, [44, 0]) := rfl
theorem rw_125_5 : mm_code 125 5 = some (.ifCond .eq 22, 3, 27, 0, []) := rfl
theorem rw_125_8 : mm_code 125 8 = some (.aload_n 0, 1, 0, 0, []) := rfl
theorem rw_125_9 : mm_code 125 9 = some (.iload_n 2, 1, 0, 0, []) := rfl
theorem rw_125_10 : mm_code 125 10 = some (.invokevirtual 198, 3, 140, 2, [49, 0]) := rfl
theorem rw_125_13 : mm_code 125 13 = some (.ifCond .eq 14, 3, 27, 0, []) := rfl
theorem rw_125_27 : mm_code 125 27 = some (.bipush (-2), 2, 2, 1, []) := rfl
theorem rw_125_29 : mm_code 125 29 = some (.ireturn, 1, 0, 0, []) := rfl
theorem rw_126_0 : mm_code 126 0 = some (.aload_n 0, 1, 0, 0, []) := rfl
theorem rw_126_1 : mm_code 126 1 = some (.iload_n 1, 1, 0, 0, []) := rfl
theorem rw_126_2 : mm_code 126 2 = some (.invokevirtual 198, 3, 140, 2, [49, 0]) := rfl
theorem rw_126_5 : mm_code 126 5 = some (.ifCond .ne 5, 3, 10, 0, []) := rfl
theorem rw_126_8 : mm_code 126 8 = some (.iconst 0, 1, 0, 0, []) := rfl
theorem rw_126_9 : mm_code 126 9 = some (.ireturn, 1, 1, 0, []) := rfl
theorem rw_127_0 : mm_code 127 0 = some (.aload_n 0, 1, 0, 0, []) := rfl
theorem rw_127_1 : mm_code 127 1 = some (.getfield 33, 3, 10, 3, [3, 8]) := rfl
theorem rw_127_4 : mm_code 127 4 = some (.getfield 230, 3, 4, 4, [0, 60]) := rfl
theorem rw_127_7 : mm_code 127 7 = some (.ireturn, 1, 0, 0, []) := rfl
theorem rw_128_0 : mm_code 128 0 = some (.iload_n 1, 1, 0, 0, []) := rfl
theorem rw_128_1 : mm_code 128 1 = some (.invokestatic 233, 3, 143, 1, [61, 0]) := rfl
theorem rw_128_4 : mm_code 128 4 = some (.ifCond .eq 20, 3, 24, 0, []) := rfl
theorem rw_128_7 : mm_code 128 7 = some (.iload_n 2, 1, 0, 0, []) := rfl
theorem rw_128_8 : mm_code 128 8 = some (.ifCond .lt 16, 3, 24, 0, []) := rfl
theorem rw_128_11 : mm_code 128 11 = some (.iload_n 2, 1, 0, 0, []) := rfl
theorem rw_128_12 : mm_code 128 12 = some (.aload_n 0, 1, 0, 0, []) := rfl
theorem rw_128_13 : mm_code 128 13 = some (.getfield 33, 3, 10, 3, [3, 8]) := rfl
theorem rw_128_16 : mm_code 128 16 = some (.getfield 236, 3, 4, 1, [3, 62]) := rfl
theorem rw_128_19 : mm_code 128 19 = some (.iload_n 1, 1, 0, 0, []) := rfl
theorem rw_128_20 : mm_code 128 20 = some (.iaload, 1, 0, 0, []) := rfl
theorem rw_128_21 : mm_code 128 21 = some (.if_icmp .lt 5, 3, 26, 0, []) := rfl
theorem rw_128_24 : mm_code 128 24 = some (.iconst (-1), 1, 1, 1, []) := rfl
theorem rw_128_25 : mm_code 128 25 = some (.ireturn, 1, 0, 0, []) := rfl
theorem rw_129_0 : mm_code 129 0 = some (.iload_n 1, 1, 0, 0, []) := rfl
theorem rw_129_1 : mm_code 129 1 = some (.invokestatic 233, 3, 143, 1, [61, 0]) := rfl
theorem rw_129_4 : mm_code 129 4 = some (.ifCond .ne 5, 3, 9, 0, []) := rfl
theorem rw_129_7 : mm_code 129 7 = some (.iconst (-1), 1, 1, 1, []) := rfl
theorem rw_129_8 : mm_code 129 8 = some (.ireturn, 1, 0, 0, []) := rfl
theorem rw_129_9 : mm_code 129 9 = some (.aload_n 0, 1, 0, 0, []) := rfl
theorem rw_129_10 : mm_code 129 10 = some (.invokevirtual 114, 3, 142, 1, [32, 0]) := rfl
theorem rw_129_13 : mm_code 129 13 = some (.aload_n 0, 1, 0, 0, []) := rfl
theorem rw_129_14 : mm_code 129 14 = some (.getfield 33, 3, 10, 3, [3, 8]) := rfl
theorem rw_129_17 : mm_code 129 17 = some (.aload_n 0, 1, 0, 0, []) := rfl
theorem rw_129_18 : mm_code 129 18 = some (.getfield 26, 3, 10, 2, [3, 6]) := rfl
theorem rw_129_21 : mm_code 129 21 = some (.aload_n 0, 1, 0, 0, []) := rfl
theorem rw_129_22 : mm_code 129 22 = some (.getfield 68, 3, 10, 8, [3, 18]) := rfl
theorem rw_129_25 : mm_code 129 25 = some (.getfield 120, 3, 5, 0, [0, 34]) := rfl
theorem rw_129_28 : mm_code 129 28 = some (.invokevirtual 123, 3, 24, 3, [35, 0]) := rfl
theorem rw_129_31 : mm_code 129 31 = some (.aload_n 0, 1, 0, 0, []) := rfl
theorem rw_129_32 : mm_code 129 32 = some (.getfield 33, 3, 10, 3, [3, 8]) := rfl
theorem rw_129_35 : mm_code 129 35 = some (.iload_n 1, 1, 0, 0, []) := rfl
theorem rw_129_36 : mm_code 129 36 = some (.lload_n 2, 1, 0, 0, []) := rfl
theorem rw_129_37 : mm_code 129 37 = some (.iconst 0, 1, 0, 0, []) := rfl
theorem rw_129_38 : mm_code 129 38 = some (.aload_n 0, 1, 0, 0, []) := rfl
theorem rw_129_39 : mm_code 129 39 = some (.getfield 68, 3, 10, 8, [3, 18]) := rfl
theorem rw_129_42 : mm_code 129 42 = some (.getfield 120, 3, 5, 0, [0, 34]) := rfl
theorem rw_129_45 : mm_code 129 45 = some (.iconst 1, 1, 1, 0, []) := rfl
theorem rw_129_46 : mm_code 129 46 = some (.isub, 1, 0, 0, []) := rfl
theorem rw_129_47 : mm_code 129 47 = some (.invokestatic 243, 3, 144, 2, [64, 0]) := rfl
theorem rw_129_50 : mm_code 129 50 = some (.land, 1, 0, 0, []) := rfl
theorem rw_129_51 : mm_code 129 51 = some (.invokevirtual 246, 3, 27, 3, [65, 0]) := rfl
theorem rw_129_54 : mm_code 129 54 = some (.ireturn, 1, 0, 0, []) := rfl
theorem rw_131_0 : mm_code 131 0 = some (.aload_n 0, 1, 0, 0, []) := rfl
theorem rw_131_1 : mm_code 131 1 = some (.iload_n 1, 1, 0, 0, []) := rfl
theorem rw_131_2 : mm_code 131 2 = some (.invokevirtual 182, 3, 139, 2, [44, 0]) := rfl
theorem rw_131_5 : mm_code 131 5 = some (.ifCond .eq 22, 3, 27, 0, []) := rfl
theorem rw_131_8 : mm_code 131 8 = some (.iload_n 2, 1, 0, 0, []) := rfl
theorem rw_131_9 : mm_code 131 9 = some (.ifCond .lt 18, 3, 27, 0, []) := rfl
theorem rw_131_12 : mm_code 131 12 = some (.iload_n 2, 1, 0, 0, []) := rfl
theorem rw_131_13 : mm_code 131 13 = some (.iconst 3, 1, 3, 0, []) := rfl
theorem rw_131_14 : mm_code 131 14 = some (.if_icmp .gt 13, 3, 27, 0, []) := rfl
theorem rw_131_17 : mm_code 131 17 = some (.aload_n 0, 1, 0, 0, []) := rfl
theorem rw_131_18 : mm_code 131 18 = some (.getfield 78, 3, 10, 10, [3, 21]) := rfl
theorem rw_131_21 : mm_code 131 21 = some (.getfield 134, 3, 6, 4, [0, 38]) := rfl
theorem rw_131_24 : mm_code 131 24 = some (.ifCond .ne 5, 3, 29, 0, []) := rfl
theorem rw_131_27 : mm_code 131 27 = some (.iconst (-1), 1, 1, 1, []) := rfl
theorem rw_131_28 : mm_code 131 28 = some (.ireturn, 1, 0, 0, []) := rfl
theorem rw_132_0 : mm_code 132 0 = some (.aload_n 0, 1, 0, 0, []) := rfl
theorem rw_132_1 : mm_code 132 1 = some (.iload_n 1, 1, 0, 0, []) := rfl
theorem rw_132_2 : mm_code 132 2 = some (.invokevirtual 182, 3, 139, 2, [44, 0]) := rfl
theorem rw_132_5 : mm_code 132 5 = some (.ifCond .eq 23, 3, 28, 0, []) := rfl
theorem rw_132_8 : mm_code 132 8 = some (.aload_n 0, 1, 0, 0, []) := rfl
theorem rw_132_9 : mm_code 132 9 = some (.getfield 68, 3, 10, 8, [3, 18]) := rfl
theorem rw_132_12 : mm_code 132 12 = some (.iload_n 2, 1, 0, 0, []) := rfl
theorem rw_132_13 : mm_code 132 13 = some (.invokevirtual 185, 3, 44, 2, [45, 0]) := rfl
theorem rw_132_16 : mm_code 132 16 = some (.ifCond .eq 12, 3, 28, 0, []) := rfl
theorem rw_132_28 : mm_code 132 28 = some (.ldc2_w 212, 3, 1, 1, [53]) := rfl
theorem rw_132_31 : mm_code 132 31 = some (.lreturn, 1, 0, 0, []) := rfl
theorem rw_133_0 : mm_code 133 0 = some (.aload_n 0, 1, 0, 0, []) := rfl
theorem rw_133_1 : mm_code 133 1 = some (.iload_n 1, 1, 0, 0, []) := rfl
theorem rw_133_2 : mm_code 133 2 = some (.invokevirtual 182, 3, 139, 2, [44, 0]) := rfl
theorem rw_133_5 : mm_code 133 5 = some (.ifCond .eq 14, 3, 19, 0, []) := rfl
theorem rw_133_8 : mm_code 133 8 = some (.aload_n 0, 1, 0, 0, []) := rfl
theorem rw_133_9 : mm_code 133 9 = some (.getfield 68, 3, 10, 8, [3, 18]) := rfl
theorem rw_133_12 : mm_code 133 12 = some (.iload_n 2, 1, 0, 0, []) := rfl
theorem rw_133_13 : mm_code 133 13 = some (.invokevirtual 185, 3, 44, 2, [45, 0]) := rfl
theorem rw_133_16 : mm_code 133 16 = some (.ifCond .ne 5, 3, 21, 0, []) := rfl
theorem rw_133_19 : mm_code 133 19 = some (.iconst (-1), 1, 1, 1, []) := rfl
theorem rw_133_20 : mm_code 133 20 = some (.ireturn, 1, 0, 0, []) := rfl
theorem rw_134_0 : mm_code 134 0 = some (.aload_n 0, 1, 0, 0, []) := rfl
theorem rw_134_1 : mm_code 134 1 = some (.iload_n 1, 1, 0, 0, []) := rfl
theorem rw_134_2 : mm_code 134 2 = some (.invokevirtual 182, 3, 139, 2, [44, 0]) := rfl
theorem rw_134_5 : mm_code 134 5 = some (.ifCond .eq 14, 3, 19, 0, []) := rfl
theorem rw_134_8 : mm_code 134 8 = some (.aload_n 0, 1, 0, 0, []) := rfl
theorem rw_134_9 : mm_code 134 9 = some (.getfield 68, 3, 10, 8, [3, 18]) := rfl
theorem rw_134_12 : mm_code 134 12 = some (.iload_n 2, 1, 0, 0, []) := rfl
theorem rw_134_13 : mm_code 134 13 = some (.invokevirtual 185, 3, 44, 2, [45, 0]) := rfl
theorem rw_134_16 : mm_code 134 16 = some (.ifCond .ne 5, 3, 21, 0, []) := rfl
theorem rw_134_19 : mm_code 134 19 = some (.iconst (-1), 1, 1, 1, []) := rfl
theorem rw_134_20 : mm_code 134 20 = some (.ireturn, 1, 0, 0, []) := rfl
theorem rw_135_0 : mm_code 135 0 = some (.aload_n 0, 1, 0, 0, []) := rfl
theorem rw_135_1 : mm_code 135 1 = some (.iload_n 1, 1, 0, 0, []) := rfl
theorem rw_135_2 : mm_code 135 2 = some (.invokevirtual 182, 3, 139, 2, [44, 0]) := rfl
theorem rw_135_5 : mm_code 135 5 = some (.ifCond .eq 22, 3, 27, 0, []) := rfl
theorem rw_135_8 : mm_code 135 8 = some (.aload_n 0, 1, 0, 0, []) := rfl
theorem rw_135_9 : mm_code 135 9 = some (.iload_n 2, 1, 0, 0, []) := rfl
theorem rw_135_10 : mm_code 135 10 = some (.invokevirtual 198, 3, 140, 2, [49, 0]) := rfl
theorem rw_135_13 : mm_code 135 13 = some (.ifCond .eq 14, 3, 27, 0, []) := rfl
theorem rw_135_27 : mm_code 135 27 = some (.bipush (-2), 2, 2, 1, []) := rfl
theorem rw_135_29 : mm_code 135 29 = some (.ireturn, 1, 0, 0, []) := rfl
theorem rw_136_0 : mm_code 136 0 = some (.iload_n 1, 1, 0, 0, []) := rfl
theorem rw_136_1 : mm_code 136 1 = some (.invokestatic 233, 3, 143, 1, [61, 0]) := rfl
theorem rw_136_4 : mm_code 136 4 = some (.ifCond .eq 25, 3, 29, 0, []) := rfl
theorem rw_136_7 : mm_code 136 7 = some (.aload_n 0, 1, 0, 0, []) := rfl
theorem rw_136_8 : mm_code 136 8 = some (.getfield 68, 3, 10, 8, [3, 18]) := rfl
theorem rw_136_11 : mm_code 136 11 = some (.iload_n 2, 1, 0, 0, []) := rfl
theorem rw_136_12 : mm_code 136 12 = some (.invokevirtual 150, 3, 43, 2, [55, 0]) := rfl
theorem rw_136_15 : mm_code 136 15 = some (.ifCond .eq 14, 3, 29, 0, []) := rfl
theorem rw_136_29 : mm_code 136 29 = some (.iconst (-1), 1, 1, 1, []) := rfl
theorem rw_136_30 : mm_code 136 30 = some (.ireturn, 1, 0, 0, []) := rfl
theorem rw_137_0 : mm_code 137 0 = some (.iload_n 1, 1, 0, 0, []) := rfl
theorem rw_137_1 : mm_code 137 1 = some (.invokestatic 233, 3, 143, 1, [61, 0]) := rfl
theorem rw_137_4 : mm_code 137 4 = some (.ifCond .eq 29, 3, 33, 0, []) := rfl
theorem rw_137_7 : mm_code 137 7 = some (.aload_n 0, 1, 0, 0, []) := rfl
theorem rw_137_8 : mm_code 137 8 = some (.getfield 68, 3, 10, 8, [3, 18]) := rfl
theorem rw_137_11 : mm_code 137 11 = some (.iload_n 2, 1, 0, 0, []) := rfl
theorem rw_137_12 : mm_code 137 12 = some (.invokevirtual 150, 3, 43, 2, [55, 0]) := rfl
theorem rw_137_15 : mm_code 137 15 = some (.ifCond .eq 18, 3, 33, 0, []) := rfl
theorem rw_137_33 : mm_code 137 33 = some (.iconst (-1), 1, 1, 1, []) := rfl
theorem rw_137_34 : mm_code 137 34 = some (.ireturn, 1, 0, 0, []) := rfl
theorem rw_138_0 : mm_code 138 0 = some (.iload_n 1, 1, 0, 0, []) := rfl
theorem rw_138_1 : mm_code 138 1 = some (.tableswitch 108 0 7 #[47, 55, 63, 71, 76, 84, 92, 100], 47, 109, 0, [48, 56, 64, 72, 77, 85, 93, 101]) := rfl
theorem rw_138_48 : mm_code 138 48 = some (.aload_n 0, 1, 0, 0, []) := rfl
theorem rw_138_49 : mm_code 138 49 = some (.getfield 68, 3, 10, 8, [3, 18]) := rfl
theorem rw_138_52 : mm_code 138 52 = some (.getfield 120, 3, 5, 0, [0, 34]) := rfl
theorem rw_138_55 : mm_code 138 55 = some (.ireturn, 1, 0, 0, []) := rfl
theorem rw_138_56 : mm_code 138 56 = some (.aload_n 0, 1, 0, 0, []) := rfl
theorem rw_138_57 : mm_code 138 57 = some (.getfield 68, 3, 10, 8, [3, 18]) := rfl
theorem rw_138_60 : mm_code 138 60 = some (.getfield 318, 3, 5, 2, [0, 87]) := rfl
theorem rw_138_63 : mm_code 138 63 = some (.ireturn, 1, 0, 0, []) := rfl
theorem rw_138_64 : mm_code 138 64 = some (.aload_n 0, 1, 0, 0, []) := rfl
theorem rw_138_65 : mm_code 138 65 = some (.getfield 68, 3, 10, 8, [3, 18]) := rfl
theorem rw_138_68 : mm_code 138 68 = some (.getfield 321, 3, 5, 3, [0, 88]) := rfl
theorem rw_138_71 : mm_code 138 71 = some (.ireturn, 1, 0, 0, []) := rfl
theorem rw_138_72 : mm_code 138 72 = some (.aload_n 0, 1, 0, 0, []) := rfl
theorem rw_138_73 : mm_code 138 73 = some (.getfield 85, 3, 10, 12, [0, 23]) := rfl
theorem rw_138_76 : mm_code 138 76 = some (.ireturn, 1, 0, 0, []) := rfl
theorem rw_138_77 : mm_code 138 77 = some (.aload_n 0, 1, 0, 0, []) := rfl
theorem rw_138_78 : mm_code 138 78 = some (.getfield 19, 3, 10, 1, [3, 4]) := rfl
theorem rw_138_81 : mm_code 138 81 = some (.getfield 104, 3, 3, 0, [0, 28]) := rfl
theorem rw_138_84 : mm_code 138 84 = some (.ireturn, 1, 0, 0, []) := rfl
theorem rw_138_85 : mm_code 138 85 = some (.aload_n 0, 1, 0, 0, []) := rfl
theorem rw_138_86 : mm_code 138 86 = some (.getfield 78, 3, 10, 10, [3, 21]) := rfl
theorem rw_138_89 : mm_code 138 89 = some (.getfield 134, 3, 6, 4, [0, 38]) := rfl
theorem rw_138_92 : mm_code 138 92 = some (.ireturn, 1, 0, 0, []) := rfl
theorem rw_138_93 : mm_code 138 93 = some (.aload_n 0, 1, 0, 0, []) := rfl
theorem rw_138_94 : mm_code 138 94 = some (.getfield 40, 3, 10, 4, [3, 10]) := rfl
theorem rw_138_97 : mm_code 138 97 = some (.getfield 323, 3, 9, 9, [0, 89]) := rfl
theorem rw_138_100 : mm_code 138 100 = some (.ireturn, 1, 0, 0, []) := rfl
theorem rw_138_101 : mm_code 138 101 = some (.aload_n 0, 1, 0, 0, []) := rfl
theorem rw_138_102 : mm_code 138 102 = some (.getfield 40, 3, 10, 4, [3, 10]) := rfl
theorem rw_138_105 : mm_code 138 105 = some (.getfield 324, 3, 9, 8, [0, 90]) := rfl
theorem rw_138_108 : mm_code 138 108 = some (.ireturn, 1, 0, 0, []) := rfl
theorem rw_138_109 : mm_code 138 109 = some (.iconst (-1), 1, 1, 1, []) := rfl
theorem rw_138_110 : mm_code 138 110 = some (.ireturn, 1, 0, 0, []) := rfl
theorem rw_139_0 : mm_code 139 0 = some (.iload_n 1, 1, 0, 0, []) := rfl
theorem rw_139_1 : mm_code 139 1 = some (.ifCond .lt 18, 3, 19, 0, []) := rfl
theorem rw_139_4 : mm_code 139 4 = some (.iload_n 1, 1, 0, 0, []) := rfl
theorem rw_139_5 : mm_code 139 5 = some (.aload_n 0, 1, 0, 0, []) := rfl
theorem rw_139_6 : mm_code 139 6 = some (.getfield 19, 3, 10, 1, [3, 4]) := rfl
theorem rw_139_9 : mm_code 139 9 = some (.getfield 104, 3, 3, 0, [0, 28]) := rfl
theorem rw_139_12 : mm_code 139 12 = some (.if_icmp .gt 7, 3, 19, 0, []) := rfl
theorem rw_139_15 : mm_code 139 15 = some (.iconst 1, 1, 1, 0, []) := rfl
theorem rw_139_16 : mm_code 139 16 = some (.goto 4, 3, 20, 0, []) := rfl
theorem rw_139_19 : mm_code 139 19 = some (.iconst 0, 1, 0, 0, []) := rfl
theorem rw_139_20 : mm_code 139 20 = some (.ireturn, 1, 1, 0, []) := rfl
theorem rw_140_0 : mm_code 140 0 = some (.iload_n 1, 1, 0, 0, []) := rfl
theorem rw_140_1 : mm_code 140 1 = some (.ifCond .lt 15, 3, 16, 0, []) := rfl
theorem rw_140_4 : mm_code 140 4 = some (.iload_n 1, 1, 0, 0, []) := rfl
theorem rw_140_5 : mm_code 140 5 = some (.aload_n 0, 1, 0, 0, []) := rfl
theorem rw_140_6 : mm_code 140 6 = some (.getfield 85, 3, 10, 12, [0, 23]) := rfl
theorem rw_140_9 : mm_code 140 9 = some (.if_icmp .ge 7, 3, 16, 0, []) := rfl
theorem rw_140_16 : mm_code 140 16 = some (.iconst 0, 1, 0, 0, []) := rfl
theorem rw_140_17 : mm_code 140 17 = some (.ireturn, 1, 1, 0, []) := rfl
theorem rw_143_0 : mm_code 143 0 = some (.iload_n 0, 1, 0, 0, []) := rfl
theorem rw_143_1 : mm_code 143 1 = some (.ifCond .lt 13, 3, 14, 0, []) := rfl
theorem rw_143_4 : mm_code 143 4 = some (.iload_n 0, 1, 0, 0, []) := rfl
theorem rw_143_5 : mm_code 143 5 = some (.bipush 6, 2, 6, 0, []) := rfl
theorem rw_143_7 : mm_code 143 7 = some (.if_icmp .ge 7, 3, 14, 0, []) := rfl
theorem rw_143_10 : mm_code 143 10 = some (.iconst 1, 1, 1, 0, []) := rfl
theorem rw_143_11 : mm_code 143 11 = some (.goto 4, 3, 15, 0, []) := rfl
theorem rw_143_14 : mm_code 143 14 = some (.iconst 0, 1, 0, 0, []) := rfl
theorem rw_143_15 : mm_code 143 15 = some (.ireturn, 1, 1, 0, []) := rfl
theorem rw_144_0 : mm_code 144 0 = some (.lconst 1, 1, 1, 0, []) := rfl
theorem rw_144_1 : mm_code 144 1 = some (.iload_n 1, 1, 0, 0, []) := rfl
theorem rw_144_2 : mm_code 144 2 = some (.iload_n 0, 1, 0, 0, []) := rfl
theorem rw_144_3 : mm_code 144 3 = some (.isub, 1, 0, 0, []) := rfl
theorem rw_144_4 : mm_code 144 4 = some (.iconst 1, 1, 1, 0, []) := rfl
theorem rw_144_5 : mm_code 144 5 = some (.iadd, 1, 0, 0, []) := rfl
theorem rw_144_6 : mm_code 144 6 = some (.lshl, 1, 0, 0, []) := rfl
theorem rw_144_7 : mm_code 144 7 = some (.lconst 1, 1, 1, 0, []) := rfl
theorem rw_144_8 : mm_code 144 8 = some (.lsub, 1, 0, 0, []) := rfl
theorem rw_144_9 : mm_code 144 9 = some (.iload_n 0, 1, 0, 0, []) := rfl
theorem rw_144_10 : mm_code 144 10 = some (.lshl, 1, 0, 0, []) := rfl
theorem rw_144_11 : mm_code 144 11 = some (.lreturn, 1, 0, 0, []) := rfl
theorem rw_147_0 : mm_code 147 0 = some (.aload_n 0, 1, 0, 0, []) := rfl
theorem rw_147_1 : mm_code 147 1 = some (.getfield 163, 3, 11, 2, [0, 51]) := rfl
theorem rw_147_4 : mm_code 147 4 = some (.ireturn, 1, 0, 0, []) := rfl
theorem rw_148_0 : mm_code 148 0 = some (.aload_n 0, 1, 0, 0, []) := rfl
theorem rw_148_1 : mm_code 148 1 = some (.iconst 0, 1, 0, 0, []) := rfl
theorem rw_148_2 : mm_code 148 2 = some (.putfield 163, 3, 11, 2, [0, 51]) := rfl
theorem rw_148_5 : mm_code 148 5 = some (.aload_n 0, 1, 0, 0, []) := rfl
theorem rw_148_6 : mm_code 148 6 = some (.getfield 166, 3, 11, 1, [0, 52]) := rfl
theorem rw_148_9 : mm_code 148 9 = some (.bipush 20, 2, 20, 0, []) := rfl
theorem rw_148_11 : mm_code 148 11 = some (.iadd, 1, 0, 0, []) := rfl
theorem rw_148_12 : mm_code 148 12 = some (.sipush 500, 3, 500, 0, []) := rfl
theorem rw_148_15 : mm_code 148 15 = some (.if_icmp .le 5, 3, 20, 0, []) := rfl
theorem rw_148_20 : mm_code 148 20 = some (.iconst 0, 1, 0, 0, []) := rfl
theorem rw_148_21 : mm_code 148 21 = some (.istore 6, 2, 0, 0, []) := rfl
theorem rw_148_23 : mm_code 148 23 = some (.iload 6, 2, 0, 0, []) := rfl
theorem rw_148_25 : mm_code 148 25 = some (.bipush 20, 2, 20, 0, []) := rfl
theorem rw_148_27 : mm_code 148 27 = some (.if_icmp .ge 86, 3, 113, 0, []) := rfl
theorem rw_148_30 : mm_code 148 30 = some (.iload 6, 2, 0, 0, []) := rfl
theorem rw_148_32 : mm_code 148 32 = some (.iconst 4, 1, 4, 0, []) := rfl
theorem rw_148_33 : mm_code 148 33 = some (.if_icmp .ge 7, 3, 40, 0, []) := rfl
theorem rw_148_36 : mm_code 148 36 = some (.iload_n 1, 1, 0, 0, []) := rfl
theorem rw_148_37 : mm_code 148 37 = some (.goto 39, 3, 76, 0, []) := rfl
theorem rw_148_40 : mm_code 148 40 = some (.iload 6, 2, 0, 0, []) := rfl
theorem rw_148_42 : mm_code 148 42 = some (.bipush 8, 2, 8, 0, []) := rfl
theorem rw_148_44 : mm_code 148 44 = some (.if_icmp .ge 7, 3, 51, 0, []) := rfl
theorem rw_148_47 : mm_code 148 47 = some (.iload_n 2, 1, 0, 0, []) := rfl
theorem rw_148_48 : mm_code 148 48 = some (.goto 28, 3, 76, 0, []) := rfl
theorem rw_148_51 : mm_code 148 51 = some (.iload 6, 2, 0, 0, []) := rfl
theorem rw_148_53 : mm_code 148 53 = some (.bipush 12, 2, 12, 0, []) := rfl
theorem rw_148_55 : mm_code 148 55 = some (.if_icmp .ge 7, 3, 62, 0, []) := rfl
theorem rw_148_58 : mm_code 148 58 = some (.iload_n 3, 1, 0, 0, []) := rfl
theorem rw_148_59 : mm_code 148 59 = some (.goto 17, 3, 76, 0, []) := rfl
theorem rw_148_62 : mm_code 148 62 = some (.iload 6, 2, 0, 0, []) := rfl
theorem rw_148_64 : mm_code 148 64 = some (.bipush 16, 2, 16, 0, []) := rfl
theorem rw_148_66 : mm_code 148 66 = some (.if_icmp .ge 8, 3, 74, 0, []) := rfl
theorem rw_148_69 : mm_code 148 69 = some (.iload 4, 2, 0, 0, []) := rfl
theorem rw_148_71 : mm_code 148 71 = some (.goto 5, 3, 76, 0, []) := rfl
theorem rw_148_74 : mm_code 148 74 = some (.iload 5, 2, 0, 0, []) := rfl
theorem rw_148_76 : mm_code 148 76 = some (.istore 7, 2, 0, 0, []) := rfl
theorem rw_148_78 : mm_code 148 78 = some (.aload_n 0, 1, 0, 0, []) := rfl
theorem rw_148_79 : mm_code 148 79 = some (.getfield 7, 3, 11, 0, [3, 1]) := rfl
theorem rw_148_82 : mm_code 148 82 = some (.aload_n 0, 1, 0, 0, []) := rfl
theorem rw_148_83 : mm_code 148 83 = some (.getfield 166, 3, 11, 1, [0, 52]) := rfl
theorem rw_148_86 : mm_code 148 86 = some (.iload 6, 2, 0, 0, []) := rfl
theorem rw_148_88 : mm_code 148 88 = some (.iadd, 1, 0, 0, []) := rfl
theorem rw_148_89 : mm_code 148 89 = some (.iload 7, 2, 0, 0, []) := rfl
theorem rw_148_91 : mm_code 148 91 = some (.bipush 24, 2, 24, 0, []) := rfl
theorem rw_148_93 : mm_code 148 93 = some (.bipush 8, 2, 8, 0, []) := rfl
theorem rw_148_95 : mm_code 148 95 = some (.iload 6, 2, 0, 0, []) := rfl
theorem rw_148_97 : mm_code 148 97 = some (.iconst 4, 1, 4, 0, []) := rfl
theorem rw_148_98 : mm_code 148 98 = some (.irem, 1, 0, 0, []) := rfl
theorem rw_148_99 : mm_code 148 99 = some (.imul, 1, 0, 0, []) := rfl
theorem rw_148_100 : mm_code 148 100 = some (.isub, 1, 0, 0, []) := rfl
theorem rw_148_101 : mm_code 148 101 = some (.ishr, 1, 0, 0, []) := rfl
theorem rw_148_102 : mm_code 148 102 = some (.sipush 255, 3, 255, 0, []) := rfl
theorem rw_148_105 : mm_code 148 105 = some (.iand, 1, 0, 0, []) := rfl
theorem rw_148_106 : mm_code 148 106 = some (.iastore, 1, 0, 0, []) := rfl
theorem rw_148_107 : mm_code 148 107 = some (.iinc 6 1, 3, 1, 0, []) := rfl
theorem rw_148_110 : mm_code 148 110 = some (.goto (-87), 3, 23, 0, []) := rfl
theorem rw_148_113 : mm_code 148 113 = some (.aload_n 0, 1, 0, 0, []) := rfl
theorem rw_148_114 : mm_code 148 114 = some (.dup, 1, 0, 0, []) := rfl
theorem rw_148_115 : mm_code 148 115 = some (.getfield 166, 3, 11, 1, [0, 52]) := rfl
theorem rw_148_118 : mm_code 148 118 = some (.bipush 20, 2, 20, 0, []) := rfl
theorem rw_148_120 : mm_code 148 120 = some (.iadd, 1, 0, 0, []) := rfl
theorem rw_148_121 : mm_code 148 121 = some (.putfield 166, 3, 11, 1, [0, 52]) := rfl
theorem rw_148_124 : mm_code 148 124 = some (.aload_n 0, 1, 0, 0, []) := rfl
theorem rw_148_125 : mm_code 148 125 = some (.getfield 166, 3, 11, 1, [0, 52]) := rfl
theorem rw_148_128 : mm_code 148 128 = some (.ireturn, 1, 0, 0, []) := rfl
theorem rw_163_0 : mm_code 163 0 = some (.iload_n 1, 1, 0, 0, []) := rfl
theorem rw_163_1 : mm_code 163 1 = some (.ifCond .lt 11, 3, 12, 0, []) := rfl
theorem rw_163_4 : mm_code 163 4 = some (.iload_n 1, 1, 0, 0, []) := rfl
theorem rw_163_5 : mm_code 163 5 = some (.aload_n 0, 1, 0, 0, []) := rfl
theorem rw_163_6 : mm_code 163 6 = some (.getfield 166, 3, 11, 1, [0, 52]) := rfl
theorem rw_163_9 : mm_code 163 9 = some (.if_icmp .le 5, 3, 14, 0, []) := rfl
theorem rw_163_12 : mm_code 163 12 = some (.iconst 0, 1, 0, 0, []) := rfl
theorem rw_163_13 : mm_code 163 13 = some (.ireturn, 1, 1, 0, []) := rfl
theorem rw_173_0 : mm_code 173 0 = some (.aload_n 0, 1, 0, 0, []) := rfl
theorem rw_173_1 : mm_code 173 1 = some (.iconst 0, 1, 0, 0, []) := rfl
theorem rw_173_2 : mm_code 173 2 = some (.putfield 163, 3, 11, 2, [0, 51]) := rfl
theorem rw_173_5 : mm_code 173 5 = some (.aload_n 0, 1, 0, 0, []) := rfl
theorem rw_173_6 : mm_code 173 6 = some (.iload_n 1, 1, 0, 0, []) := rfl
theorem rw_173_7 : mm_code 173 7 = some (.invokevirtual 283, 3, 163, 2, [88, 0]) := rfl
theorem rw_173_10 : mm_code 173 10 = some (.ifCond .ne 6, 3, 16, 0, []) := rfl
theorem rw_173_13 : mm_code 173 13 = some (.bipush (-2), 2, 2, 1, []) := rfl
theorem rw_173_15 : mm_code 173 15 = some (.ireturn, 1, 0, 0, []) := rfl
theorem rw_174_0 : mm_code 174 0 = some (.aload_n 0, 1, 0, 0, []) := rfl
theorem rw_174_1 : mm_code 174 1 = some (.iconst 0, 1, 0, 0, []) := rfl
theorem rw_174_2 : mm_code 174 2 = some (.putfield 163, 3, 11, 2, [0, 51]) := rfl
theorem rw_174_5 : mm_code 174 5 = some (.iload_n 1, 1, 0, 0, []) := rfl
theorem rw_174_6 : mm_code 174 6 = some (.ifCond .ne 10, 3, 16, 0, []) := rfl
theorem rw_174_9 : mm_code 174 9 = some (.aload_n 0, 1, 0, 0, []) := rfl
theorem rw_174_10 : mm_code 174 10 = some (.getfield 173, 3, 11, 4, [0, 54]) := rfl
theorem rw_174_13 : mm_code 174 13 = some (.goto 16, 3, 29, 0, []) := rfl
theorem rw_174_16 : mm_code 174 16 = some (.iload_n 1, 1, 0, 0, []) := rfl
theorem rw_174_17 : mm_code 174 17 = some (.iconst 1, 1, 1, 0, []) := rfl
theorem rw_174_18 : mm_code 174 18 = some (.if_icmp .ne 10, 3, 28, 0, []) := rfl
theorem rw_174_21 : mm_code 174 21 = some (.aload_n 0, 1, 0, 0, []) := rfl
theorem rw_174_22 : mm_code 174 22 = some (.getfield 16, 3, 11, 5, [0, 3]) := rfl
theorem rw_174_25 : mm_code 174 25 = some (.goto 4, 3, 29, 0, []) := rfl
theorem rw_174_28 : mm_code 174 28 = some (.iconst (-1), 1, 1, 1, []) := rfl
theorem rw_174_29 : mm_code 174 29 = some (.ireturn, 1, 0, 0, []) := rfl
theorem rw_175_0 : mm_code 175 0 = some (.iconst 0, 1, 0, 0, []) := rfl
theorem rw_175_1 : mm_code 175 1 = some (.istore_n 2, 1, 0, 0, []) := rfl
theorem rw_175_2 : mm_code 175 2 = some (.iload_n 2, 1, 0, 0, []) := rfl
theorem rw_175_3 : mm_code 175 3 = some (.aload_n 0, 1, 0, 0, []) := rfl
theorem rw_175_4 : mm_code 175 4 = some (.getfield 233, 3, 11, 12, [0, 73]) := rfl
theorem rw_175_7 : mm_code 175 7 = some (.if_icmp .ge 21, 3, 28, 0, []) := rfl
theorem rw_175_28 : mm_code 175 28 = some (.iconst (-1), 1, 1, 1, []) := rfl
theorem rw_175_29 : mm_code 175 29 = some (.ireturn, 1, 0, 0, []) := rfl
theorem rw_176_0 : mm_code 176 0 = some (.iconst 0, 1, 0, 0, []) := rfl
theorem rw_176_1 : mm_code 176 1 = some (.istore_n 2, 1, 0, 0, []) := rfl
theorem rw_176_2 : mm_code 176 2 = some (.iload_n 2, 1, 0, 0, []) := rfl
theorem rw_176_3 : mm_code 176 3 = some (.aload_n 0, 1, 0, 0, []) := rfl
theorem rw_176_4 : mm_code 176 4 = some (.getfield 236, 3, 11, 13, [0, 74]) := rfl
theorem rw_176_7 : mm_code 176 7 = some (.if_icmp .ge 21, 3, 28, 0, []) := rfl
theorem rw_176_28 : mm_code 176 28 = some (.iconst (-1), 1, 1, 1, []) := rfl
theorem rw_176_29 : mm_code 176 29 = some (.ireturn, 1, 0, 0, []) := rfl
theorem rw_177_0 : mm_code 177 0 = some (.aload_n 0, 1, 0, 0, []) := rfl
theorem rw_177_1 : mm_code 177 1 = some (.iconst 0, 1, 0, 0, []) := rfl
theorem rw_177_2 : mm_code 177 2 = some (.putfield 163, 3, 11, 2, [0, 51]) := rfl
theorem rw_177_5 : mm_code 177 5 = some (.iload_n 1, 1, 0, 0, []) := rfl
theorem rw_177_6 : mm_code 177 6 = some (.ifCond .ne 11, 3, 17, 0, []) := rfl
theorem rw_177_9 : mm_code 177 9 = some (.aload_n 0, 1, 0, 0, []) := rfl
theorem rw_177_10 : mm_code 177 10 = some (.iload_n 2, 1, 0, 0, []) := rfl
theorem rw_177_11 : mm_code 177 11 = some (.invokevirtual 290, 3, 175, 2, [90, 0]) := rfl
theorem rw_177_14 : mm_code 177 14 = some (.goto 17, 3, 31, 0, []) := rfl
theorem rw_177_17 : mm_code 177 17 = some (.iload_n 1, 1, 0, 0, []) := rfl
theorem rw_177_18 : mm_code 177 18 = some (.iconst 1, 1, 1, 0, []) := rfl
theorem rw_177_19 : mm_code 177 19 = some (.if_icmp .ne 11, 3, 30, 0, []) := rfl
theorem rw_177_22 : mm_code 177 22 = some (.aload_n 0, 1, 0, 0, []) := rfl
theorem rw_177_23 : mm_code 177 23 = some (.iload_n 2, 1, 0, 0, []) := rfl
theorem rw_177_24 : mm_code 177 24 = some (.invokevirtual 293, 3, 176, 2, [91, 0]) := rfl
theorem rw_177_27 : mm_code 177 27 = some (.goto 4, 3, 31, 0, []) := rfl
theorem rw_177_30 : mm_code 177 30 = some (.iconst (-1), 1, 1, 1, []) := rfl
theorem rw_177_31 : mm_code 177 31 = some (.ireturn, 1, 0, 0, []) := rfl
theorem rw_178_0 : mm_code 178 0 = some (.iload_n 1, 1, 0, 0, []) := rfl
theorem rw_178_1 : mm_code 178 1 = some (.ifCond .lt 15, 3, 16, 0, []) := rfl
theorem rw_178_4 : mm_code 178 4 = some (.iload_n 1, 1, 0, 0, []) := rfl
theorem rw_178_5 : mm_code 178 5 = some (.aload_n 0, 1, 0, 0, []) := rfl
theorem rw_178_6 : mm_code 178 6 = some (.getfield 233, 3, 11, 12, [0, 73]) := rfl
theorem rw_178_9 : mm_code 178 9 = some (.if_icmp .ge 7, 3, 16, 0, []) := rfl
theorem rw_178_16 : mm_code 178 16 = some (.iconst 0, 1, 0, 0, []) := rfl
theorem rw_178_17 : mm_code 178 17 = some (.ireturn, 1, 1, 0, []) := rfl
theorem rw_179_0 : mm_code 179 0 = some (.aload_n 0, 1, 0, 0, []) := rfl
theorem rw_179_1 : mm_code 179 1 = some (.iload_n 1, 1, 0, 0, []) := rfl
theorem rw_179_2 : mm_code 179 2 = some (.invokevirtual 296, 3, 178, 2, [92, 0]) := rfl
theorem rw_179_5 : mm_code 179 5 = some (.ifCond .eq 17, 3, 22, 0, []) := rfl
theorem rw_179_22 : mm_code 179 22 = some (.iconst 0, 1, 0, 0, []) := rfl
theorem rw_179_23 : mm_code 179 23 = some (.ireturn, 1, 1, 0, []) := rfl
theorem rw_180_0 : mm_code 180 0 = some (.iload_n 1, 1, 0, 0, []) := rfl
theorem rw_180_1 : mm_code 180 1 = some (.ifCond .lt 15, 3, 16, 0, []) := rfl
theorem rw_180_4 : mm_code 180 4 = some (.iload_n 1, 1, 0, 0, []) := rfl
theorem rw_180_5 : mm_code 180 5 = some (.aload_n 0, 1, 0, 0, []) := rfl
theorem rw_180_6 : mm_code 180 6 = some (.getfield 236, 3, 11, 13, [0, 74]) := rfl
theorem rw_180_9 : mm_code 180 9 = some (.if_icmp .ge 7, 3, 16, 0, []) := rfl
theorem rw_180_16 : mm_code 180 16 = some (.iconst 0, 1, 0, 0, []) := rfl
theorem rw_180_17 : mm_code 180 17 = some (.ireturn, 1, 1, 0, []) := rfl
theorem rw_181_0 : mm_code 181 0 = some (.aload_n 0, 1, 0, 0, []) := rfl
theorem rw_181_1 : mm_code 181 1 = some (.iload_n 1, 1, 0, 0, []) := rfl
theorem rw_181_2 : mm_code 181 2 = some (.putfield 163, 3, 11, 2, [0, 51]) := rfl
theorem rw_181_5 : mm_code 181 5 = some (.iconst 0, 1, 0, 0, []) := rfl
theorem rw_181_6 : mm_code 181 6 = some (.ireturn, 1, 0, 0, []) := rfl
theorem rw_182_0 : mm_code 182 0 = some (.aload_n 0, 1, 0, 0, []) := rfl
theorem rw_182_1 : mm_code 182 1 = some (.iconst 0, 1, 0, 0, []) := rfl
theorem rw_182_2 : mm_code 182 2 = some (.putfield 163, 3, 11, 2, [0, 51]) := rfl
theorem rw_182_5 : mm_code 182 5 = some (.aload_n 0, 1, 0, 0, []) := rfl
theorem rw_182_6 : mm_code 182 6 = some (.iload_n 1, 1, 0, 0, []) := rfl
theorem rw_182_7 : mm_code 182 7 = some (.invokevirtual 296, 3, 178, 2, [92, 0]) := rfl
theorem rw_182_10 : mm_code 182 10 = some (.ifCond .ne 9, 3, 19, 0, []) := rfl
theorem rw_182_13 : mm_code 182 13 = some (.aload_n 0, 1, 0, 0, []) := rfl
theorem rw_182_14 : mm_code 182 14 = some (.iconst 1, 1, 1, 0, []) := rfl
theorem rw_182_15 : mm_code 182 15 = some (.invokevirtual 299, 3, 181, 2, [93, 0]) := rfl
theorem rw_182_18 : mm_code 182 18 = some (.ireturn, 1, 0, 0, []) := rfl
theorem rw_184_0 : mm_code 184 0 = some (.aload_n 0, 1, 0, 0, []) := rfl
theorem rw_184_1 : mm_code 184 1 = some (.iload_n 1, 1, 0, 0, []) := rfl
theorem rw_184_2 : mm_code 184 2 = some (.invokevirtual 302, 3, 179, 2, [94, 0]) := rfl
theorem rw_184_5 : mm_code 184 5 = some (.ifCond .eq 21, 3, 26, 0, []) := rfl
theorem rw_184_26 : mm_code 184 26 = some (.iconst 0, 1, 0, 0, []) := rfl
theorem rw_184_27 : mm_code 184 27 = some (.ireturn, 1, 1, 0, []) := rfl
theorem rw_185_0 : mm_code 185 0 = some (.aload_n 0, 1, 0, 0, []) := rfl
theorem rw_185_1 : mm_code 185 1 = some (.iconst 0, 1, 0, 0, []) := rfl
theorem rw_185_2 : mm_code 185 2 = some (.putfield 163, 3, 11, 2, [0, 51]) := rfl
theorem rw_185_5 : mm_code 185 5 = some (.aload_n 0, 1, 0, 0, []) := rfl
theorem rw_185_6 : mm_code 185 6 = some (.iload_n 1, 1, 0, 0, []) := rfl
theorem rw_185_7 : mm_code 185 7 = some (.iload_n 2, 1, 0, 0, []) := rfl
theorem rw_185_8 : mm_code 185 8 = some (.invokevirtual 305, 3, 184, 3, [95, 0]) := rfl
theorem rw_185_11 : mm_code 185 11 = some (.ifCond .eq 12, 3, 23, 0, []) := rfl
theorem rw_185_23 : mm_code 185 23 = some (.lconst 0, 1, 0, 0, []) := rfl
theorem rw_185_24 : mm_code 185 24 = some (.lreturn, 1, 0, 0, []) := rfl
theorem rw_186_0 : mm_code 186 0 = some (.iload_n 1, 1, 0, 0, []) := rfl
theorem rw_186_1 : mm_code 186 1 = some (.ifCond .lt 15, 3, 16, 0, []) := rfl
theorem rw_186_4 : mm_code 186 4 = some (.iload_n 1, 1, 0, 0, []) := rfl
theorem rw_186_5 : mm_code 186 5 = some (.aload_n 0, 1, 0, 0, []) := rfl
theorem rw_186_6 : mm_code 186 6 = some (.getfield 242, 3, 11, 29, [0, 76]) := rfl
theorem rw_186_9 : mm_code 186 9 = some (.if_icmp .gt 7, 3, 16, 0, []) := rfl
theorem rw_186_12 : mm_code 186 12 = some (.iconst 1, 1, 1, 0, []) := rfl
theorem rw_186_13 : mm_code 186 13 = some (.goto 4, 3, 17, 0, []) := rfl
theorem rw_186_16 : mm_code 186 16 = some (.iconst 0, 1, 0, 0, []) := rfl
theorem rw_186_17 : mm_code 186 17 = some (.ireturn, 1, 1, 0, []) := rfl
theorem rw_187_0 : mm_code 187 0 = some (.iload_n 1, 1, 0, 0, []) := rfl
theorem rw_187_1 : mm_code 187 1 = some (.ifCond .lt 15, 3, 16, 0, []) := rfl
theorem rw_187_4 : mm_code 187 4 = some (.iload_n 1, 1, 0, 0, []) := rfl
theorem rw_187_5 : mm_code 187 5 = some (.aload_n 0, 1, 0, 0, []) := rfl
theorem rw_187_6 : mm_code 187 6 = some (.getfield 239, 3, 11, 28, [0, 75]) := rfl
theorem rw_187_9 : mm_code 187 9 = some (.if_icmp .ge 7, 3, 16, 0, []) := rfl
theorem rw_187_16 : mm_code 187 16 = some (.iconst 0, 1, 0, 0, []) := rfl
theorem rw_187_17 : mm_code 187 17 = some (.ireturn, 1, 1, 0, []) := rfl
theorem rw_189_0 : mm_code 189 0 = some (.iconst 0, 1, 0, 0, []) := rfl
theorem rw_189_1 : mm_code 189 1 = some (.istore_n 2, 1, 0, 0, []) := rfl
theorem rw_189_2 : mm_code 189 2 = some (.iload_n 2, 1, 0, 0, []) := rfl
theorem rw_189_3 : mm_code 189 3 = some (.iload_n 1, 1, 0, 0, []) := rfl
theorem rw_189_4 : mm_code 189 4 = some (.if_icmp .ge 16, 3, 20, 0, []) := rfl
theorem rw_189_20 : mm_code 189 20 = some (.iload_n 1, 1, 0, 0, []) := rfl
theorem rw_189_21 : mm_code 189 21 = some (.iconst 1, 1, 1, 0, []) := rfl
theorem rw_189_22 : mm_code 189 22 = some (.isub, 1, 0, 0, []) := rfl
theorem rw_189_23 : mm_code 189 23 = some (.istore_n 2, 1, 0, 0, []) := rfl
theorem rw_189_24 : mm_code 189 24 = some (.iload_n 2, 1, 0, 0, []) := rfl
theorem rw_189_25 : mm_code 189 25 = some (.ifCond .lt 40, 3, 65, 0, []) := rfl
theorem rw_189_65 : mm_code 189 65 = some (.iconst 0, 1, 0, 0, []) := rfl
theorem rw_189_66 : mm_code 189 66 = some (.istore_n 2, 1, 0, 0, []) := rfl
theorem rw_189_67 : mm_code 189 67 = some (.iload_n 2, 1, 0, 0, []) := rfl
theorem rw_189_68 : mm_code 189 68 = some (.aload_n 0, 1, 0, 0, []) := rfl
theorem rw_189_69 : mm_code 189 69 = some (.getfield 236, 3, 11, 13, [0, 74]) := rfl
theorem rw_189_72 : mm_code 189 72 = some (.if_icmp .ge 21, 3, 93, 0, []) := rfl
theorem rw_189_93 : mm_code 189 93 = some (.iconst 0, 1, 0, 0, []) := rfl
theorem rw_189_94 : mm_code 189 94 = some (.istore_n 2, 1, 0, 0, []) := rfl
theorem rw_189_95 : mm_code 189 95 = some (.iload_n 2, 1, 0, 0, []) := rfl
theorem rw_189_96 : mm_code 189 96 = some (.aload_n 0, 1, 0, 0, []) := rfl
theorem rw_189_97 : mm_code 189 97 = some (.getfield 239, 3, 11, 28, [0, 75]) := rfl
theorem rw_189_100 : mm_code 189 100 = some (.if_icmp .ge 49, 3, 149, 0, []) := rfl
theorem rw_189_149 : mm_code 189 149 = some (.iconst 0, 1, 0, 0, []) := rfl
theorem rw_189_150 : mm_code 189 150 = some (.istore_n 2, 1, 0, 0, []) := rfl
theorem rw_189_151 : mm_code 189 151 = some (.iload_n 2, 1, 0, 0, []) := rfl
theorem rw_189_152 : mm_code 189 152 = some (.iload_n 1, 1, 0, 0, []) := rfl
theorem rw_189_153 : mm_code 189 153 = some (.if_icmp .ge 23, 3, 176, 0, []) := rfl
theorem rw_189_176 : mm_code 189 176 = some (.return_, 1, 0, 0, []) := rfl
theorem rw_192_0 : mm_code 192 0 = some (.aload_n 0, 1, 0, 0, []) := rfl
theorem rw_192_1 : mm_code 192 1 = some (.iconst 0, 1, 0, 0, []) := rfl
theorem rw_192_2 : mm_code 192 2 = some (.putfield 163, 3, 11, 2, [0, 51]) := rfl
theorem rw_192_5 : mm_code 192 5 = some (.aload_n 0, 1, 0, 0, []) := rfl
theorem rw_192_6 : mm_code 192 6 = some (.iload_n 1, 1, 0, 0, []) := rfl
theorem rw_192_7 : mm_code 192 7 = some (.invokevirtual 320, 3, 186, 2, [100, 0]) := rfl
theorem rw_192_10 : mm_code 192 10 = some (.ifCond .eq 11, 3, 21, 0, []) := rfl
theorem rw_192_13 : mm_code 192 13 = some (.aload_n 0, 1, 0, 0, []) := rfl
theorem rw_192_14 : mm_code 192 14 = some (.iload_n 2, 1, 0, 0, []) := rfl
theorem rw_192_15 : mm_code 192 15 = some (.invokevirtual 323, 3, 180, 2, [101, 0]) := rfl
theorem rw_192_18 : mm_code 192 18 = some (.ifCond .ne 5, 3, 23, 0, []) := rfl
theorem rw_192_21 : mm_code 192 21 = some (.lconst 0, 1, 0, 0, []) := rfl
theorem rw_192_22 : mm_code 192 22 = some (.lreturn, 1, 0, 0, []) := rfl
theorem rw_194_0 : mm_code 194 0 = some (.aload_n 0, 1, 0, 0, []) := rfl
theorem rw_194_1 : mm_code 194 1 = some (.iconst 0, 1, 0, 0, []) := rfl
theorem rw_194_2 : mm_code 194 2 = some (.putfield 163, 3, 11, 2, [0, 51]) := rfl
theorem rw_194_5 : mm_code 194 5 = some (.aload_n 0, 1, 0, 0, []) := rfl
theorem rw_194_6 : mm_code 194 6 = some (.getfield 242, 3, 11, 29, [0, 76]) := rfl
theorem rw_194_9 : mm_code 194 9 = some (.sipush 150, 3, 150, 0, []) := rfl
theorem rw_194_12 : mm_code 194 12 = some (.if_icmp .eq 20, 3, 32, 0, []) := rfl
theorem rw_194_15 : mm_code 194 15 = some (.aload_n 0, 1, 0, 0, []) := rfl
theorem rw_194_16 : mm_code 194 16 = some (.iload_n 1, 1, 0, 0, []) := rfl
theorem rw_194_17 : mm_code 194 17 = some (.invokevirtual 329, 3, 187, 2, [103, 0]) := rfl
theorem rw_194_20 : mm_code 194 20 = some (.ifCond .eq 12, 3, 32, 0, []) := rfl
theorem rw_194_32 : mm_code 194 32 = some (.iconst (-1), 1, 1, 1, []) := rfl
theorem rw_194_33 : mm_code 194 33 = some (.goto 11, 3, 44, 0, []) := rfl
theorem rw_194_44 : mm_code 194 44 = some (.ireturn, 1, 0, 0, []) := rfl
theorem rw_195_0 : mm_code 195 0 = some (.aload_n 0, 1, 0, 0, []) := rfl
theorem rw_195_1 : mm_code 195 1 = some (.iconst 0, 1, 0, 0, []) := rfl
theorem rw_195_2 : mm_code 195 2 = some (.putfield 163, 3, 11, 2, [0, 51]) := rfl
theorem rw_195_5 : mm_code 195 5 = some (.aload_n 0, 1, 0, 0, []) := rfl
theorem rw_195_6 : mm_code 195 6 = some (.getfield 242, 3, 11, 29, [0, 76]) := rfl
theorem rw_195_9 : mm_code 195 9 = some (.sipush 150, 3, 150, 0, []) := rfl
theorem rw_195_12 : mm_code 195 12 = some (.if_icmp .eq 19, 3, 31, 0, []) := rfl
theorem rw_195_15 : mm_code 195 15 = some (.aload_n 0, 1, 0, 0, []) := rfl
theorem rw_195_16 : mm_code 195 16 = some (.iload_n 1, 1, 0, 0, []) := rfl
theorem rw_195_17 : mm_code 195 17 = some (.invokevirtual 329, 3, 187, 2, [103, 0]) := rfl
theorem rw_195_20 : mm_code 195 20 = some (.ifCond .eq 11, 3, 31, 0, []) := rfl
theorem rw_195_31 : mm_code 195 31 = some (.iconst (-1), 1, 1, 1, []) := rfl
theorem rw_195_32 : mm_code 195 32 = some (.goto 11, 3, 43, 0, []) := rfl
theorem rw_195_43 : mm_code 195 43 = some (.ireturn, 1, 0, 0, []) := rfl
theorem rw_196_0 : mm_code 196 0 = some (.aload_n 0, 1, 0, 0, []) := rfl
theorem rw_196_1 : mm_code 196 1 = some (.iconst 0, 1, 0, 0, []) := rfl
theorem rw_196_2 : mm_code 196 2 = some (.putfield 163, 3, 11, 2, [0, 51]) := rfl
theorem rw_196_5 : mm_code 196 5 = some (.aload_n 0, 1, 0, 0, []) := rfl
theorem rw_196_6 : mm_code 196 6 = some (.getfield 242, 3, 11, 29, [0, 76]) := rfl
theorem rw_196_9 : mm_code 196 9 = some (.sipush 150, 3, 150, 0, []) := rfl
theorem rw_196_12 : mm_code 196 12 = some (.if_icmp .eq 23, 3, 35, 0, []) := rfl
theorem rw_196_15 : mm_code 196 15 = some (.aload_n 0, 1, 0, 0, []) := rfl
theorem rw_196_16 : mm_code 196 16 = some (.iload_n 1, 1, 0, 0, []) := rfl
theorem rw_196_17 : mm_code 196 17 = some (.invokevirtual 329, 3, 187, 2, [103, 0]) := rfl
theorem rw_196_20 : mm_code 196 20 = some (.ifCond .eq 15, 3, 35, 0, []) := rfl
theorem rw_196_35 : mm_code 196 35 = some (.iconst (-1), 1, 1, 1, []) := rfl
theorem rw_196_36 : mm_code 196 36 = some (.goto 19, 3, 55, 0, []) := rfl
theorem rw_196_55 : mm_code 196 55 = some (.ireturn, 1, 0, 0, []) := rfl
theorem rw_198_0 : mm_code 198 0 = some (.aload_n 0, 1, 0, 0, []) := rfl
theorem rw_198_1 : mm_code 198 1 = some (.iconst 0, 1, 0, 0, []) := rfl
theorem rw_198_2 : mm_code 198 2 = some (.putfield 163, 3, 11, 2, [0, 51]) := rfl
theorem rw_198_5 : mm_code 198 5 = some (.aload_n 0, 1, 0, 0, []) := rfl
theorem rw_198_6 : mm_code 198 6 = some (.getfield 242, 3, 11, 29, [0, 76]) := rfl
theorem rw_198_9 : mm_code 198 9 = some (.sipush 150, 3, 150, 0, []) := rfl
theorem rw_198_12 : mm_code 198 12 = some (.if_icmp .eq 49, 3, 61, 0, []) := rfl
theorem rw_198_15 : mm_code 198 15 = some (.aload_n 0, 1, 0, 0, []) := rfl
theorem rw_198_16 : mm_code 198 16 = some (.iload_n 1, 1, 0, 0, []) := rfl
theorem rw_198_17 : mm_code 198 17 = some (.invokevirtual 323, 3, 180, 2, [101, 0]) := rfl
theorem rw_198_20 : mm_code 198 20 = some (.ifCond .eq 41, 3, 61, 0, []) := rfl
theorem rw_198_61 : mm_code 198 61 = some (.iconst (-1), 1, 1, 1, []) := rfl
theorem rw_198_62 : mm_code 198 62 = some (.ireturn, 1, 0, 0, []) := rfl
theorem rw_199_0 : mm_code 199 0 = some (.aload_n 0, 1, 0, 0, []) := rfl
theorem rw_199_1 : mm_code 199 1 = some (.iconst 0, 1, 0, 0, []) := rfl
theorem rw_199_2 : mm_code 199 2 = some (.putfield 163, 3, 11, 2, [0, 51]) := rfl
theorem rw_199_5 : mm_code 199 5 = some (.aload_n 0, 1, 0, 0, []) := rfl
theorem rw_199_6 : mm_code 199 6 = some (.getfield 242, 3, 11, 29, [0, 76]) := rfl
theorem rw_199_9 : mm_code 199 9 = some (.sipush 150, 3, 150, 0, []) := rfl
theorem rw_199_12 : mm_code 199 12 = some (.if_icmp .eq 15, 3, 27, 0, []) := rfl
theorem rw_199_15 : mm_code 199 15 = some (.iload_n 1, 1, 0, 0, []) := rfl
theorem rw_199_16 : mm_code 199 16 = some (.ifCond .lt 11, 3, 27, 0, []) := rfl
theorem rw_199_19 : mm_code 199 19 = some (.iload_n 1, 1, 0, 0, []) := rfl
theorem rw_199_20 : mm_code 199 20 = some (.aload_n 0, 1, 0, 0, []) := rfl
theorem rw_199_21 : mm_code 199 21 = some (.getfield 242, 3, 11, 29, [0, 76]) := rfl
theorem rw_199_24 : mm_code 199 24 = some (.if_icmp .lt 7, 3, 31, 0, []) := rfl
theorem rw_199_27 : mm_code 199 27 = some (.iconst (-1), 1, 1, 1, []) := rfl
theorem rw_199_28 : mm_code 199 28 = some (.goto 11, 3, 39, 0, []) := rfl
theorem rw_199_39 : mm_code 199 39 = some (.ireturn, 1, 0, 0, []) := rfl
theorem rw_200_0 : mm_code 200 0 = some (.aload_n 0, 1, 0, 0, []) := rfl
theorem rw_200_1 : mm_code 200 1 = some (.iconst 0, 1, 0, 0, []) := rfl
theorem rw_200_2 : mm_code 200 2 = some (.putfield 163, 3, 11, 2, [0, 51]) := rfl
theorem rw_200_5 : mm_code 200 5 = some (.aload_n 0, 1, 0, 0, []) := rfl
theorem rw_200_6 : mm_code 200 6 = some (.iload_n 1, 1, 0, 0, []) := rfl
theorem rw_200_7 : mm_code 200 7 = some (.invokevirtual 320, 3, 186, 2, [100, 0]) := rfl
theorem rw_200_10 : mm_code 200 10 = some (.ifCond .eq 11, 3, 21, 0, []) := rfl
theorem rw_200_13 : mm_code 200 13 = some (.aload_n 0, 1, 0, 0, []) := rfl
theorem rw_200_14 : mm_code 200 14 = some (.iload_n 2, 1, 0, 0, []) := rfl
theorem rw_200_15 : mm_code 200 15 = some (.invokevirtual 329, 3, 187, 2, [103, 0]) := rfl
theorem rw_200_18 : mm_code 200 18 = some (.ifCond .ne 7, 3, 25, 0, []) := rfl
theorem rw_200_21 : mm_code 200 21 = some (.ldc2_w 315, 3, 1, 1, [98]) := rfl
theorem rw_200_24 : mm_code 200 24 = some (.lreturn, 1, 0, 0, []) := rfl
theorem rw_202_0 : mm_code 202 0 = some (.aload_n 0, 1, 0, 0, []) := rfl
theorem rw_202_1 : mm_code 202 1 = some (.iconst 0, 1, 0, 0, []) := rfl
theorem rw_202_2 : mm_code 202 2 = some (.putfield 163, 3, 11, 2, [0, 51]) := rfl
theorem rw_202_5 : mm_code 202 5 = some (.aload_n 0, 1, 0, 0, []) := rfl
theorem rw_202_6 : mm_code 202 6 = some (.iload_n 1, 1, 0, 0, []) := rfl
theorem rw_202_7 : mm_code 202 7 = some (.invokevirtual 320, 3, 186, 2, [100, 0]) := rfl
theorem rw_202_10 : mm_code 202 10 = some (.ifCond .eq 19, 3, 29, 0, []) := rfl
theorem rw_202_13 : mm_code 202 13 = some (.aload_n 0, 1, 0, 0, []) := rfl
theorem rw_202_14 : mm_code 202 14 = some (.iload_n 2, 1, 0, 0, []) := rfl
theorem rw_202_15 : mm_code 202 15 = some (.invokevirtual 329, 3, 187, 2, [103, 0]) := rfl
theorem rw_202_18 : mm_code 202 18 = some (.ifCond .eq 11, 3, 29, 0, []) := rfl
theorem rw_202_29 : mm_code 202 29 = some (.bipush (-2), 2, 2, 1, []) := rfl
theorem rw_202_31 : mm_code 202 31 = some (.ireturn, 1, 0, 0, []) := rfl
theorem rw_203_0 : mm_code 203 0 = some (.aload_n 0, 1, 0, 0, []) := rfl
theorem rw_203_1 : mm_code 203 1 = some (.iconst 0, 1, 0, 0, []) := rfl
theorem rw_203_2 : mm_code 203 2 = some (.putfield 163, 3, 11, 2, [0, 51]) := rfl
theorem rw_203_5 : mm_code 203 5 = some (.aload_n 0, 1, 0, 0, []) := rfl
theorem rw_203_6 : mm_code 203 6 = some (.iload_n 1, 1, 0, 0, []) := rfl
theorem rw_203_7 : mm_code 203 7 = some (.invokevirtual 329, 3, 187, 2, [103, 0]) := rfl
theorem rw_203_10 : mm_code 203 10 = some (.ifCond .ne 5, 3, 15, 0, []) := rfl
theorem rw_203_13 : mm_code 203 13 = some (.iconst 0, 1, 0, 0, []) := rfl
theorem rw_203_14 : mm_code 203 14 = some (.ireturn, 1, 1, 0, []) := rfl
theorem rw_204_0 : mm_code 204 0 = some (.aload_n 0, 1, 0, 0, []) := rfl
theorem rw_204_1 : mm_code 204 1 = some (.iconst 0, 1, 0, 0, []) := rfl
theorem rw_204_2 : mm_code 204 2 = some (.putfield 163, 3, 11, 2, [0, 51]) := rfl
theorem rw_204_5 : mm_code 204 5 = some (.aload_n 0, 1, 0, 0, []) := rfl
theorem rw_204_6 : mm_code 204 6 = some (.getfield 252, 3, 11, 41, [0, 79]) := rfl
theorem rw_204_9 : mm_code 204 9 = some (.ireturn, 1, 0, 0, []) := rfl
theorem rw_205_0 : mm_code 205 0 = some (.iload_n 0, 1, 0, 0, []) := rfl
theorem rw_205_1 : mm_code 205 1 = some (.ifCond .lt 13, 3, 14, 0, []) := rfl
theorem rw_205_4 : mm_code 205 4 = some (.iload_n 0, 1, 0, 0, []) := rfl
theorem rw_205_5 : mm_code 205 5 = some (.bipush 6, 2, 6, 0, []) := rfl
theorem rw_205_7 : mm_code 205 7 = some (.if_icmp .ge 7, 3, 14, 0, []) := rfl
theorem rw_205_10 : mm_code 205 10 = some (.iconst 1, 1, 1, 0, []) := rfl
theorem rw_205_11 : mm_code 205 11 = some (.goto 4, 3, 15, 0, []) := rfl
theorem rw_205_14 : mm_code 205 14 = some (.iconst 0, 1, 0, 0, []) := rfl
theorem rw_205_15 : mm_code 205 15 = some (.ireturn, 1, 1, 0, []) := rfl
theorem rw_206_0 : mm_code 206 0 = some (.aload_n 0, 1, 0, 0, []) := rfl
theorem rw_206_1 : mm_code 206 1 = some (.iconst 0, 1, 0, 0, []) := rfl
theorem rw_206_2 : mm_code 206 2 = some (.putfield 163, 3, 11, 2, [0, 51]) := rfl
theorem rw_206_5 : mm_code 206 5 = some (.iload_n 1, 1, 0, 0, []) := rfl
theorem rw_206_6 : mm_code 206 6 = some (.invokestatic 346, 3, 205, 1, [108, 0]) := rfl
theorem rw_206_9 : mm_code 206 9 = some (.ifCond .eq 31, 3, 40, 0, []) := rfl
theorem rw_206_12 : mm_code 206 12 = some (.iload_n 2, 1, 0, 0, []) := rfl
theorem rw_206_13 : mm_code 206 13 = some (.ifCond .lt 27, 3, 40, 0, []) := rfl
theorem rw_206_16 : mm_code 206 16 = some (.iload_n 2, 1, 0, 0, []) := rfl
theorem rw_206_17 : mm_code 206 17 = some (.aload_n 0, 1, 0, 0, []) := rfl
theorem rw_206_18 : mm_code 206 18 = some (.getfield 82, 3, 11, 40, [3, 24]) := rfl
theorem rw_206_21 : mm_code 206 21 = some (.iload_n 1, 1, 0, 0, []) := rfl
theorem rw_206_22 : mm_code 206 22 = some (.iaload, 1, 0, 0, []) := rfl
theorem rw_206_23 : mm_code 206 23 = some (.if_icmp .ge 17, 3, 40, 0, []) := rfl
theorem rw_206_40 : mm_code 206 40 = some (.iconst (-1), 1, 1, 1, []) := rfl
theorem rw_206_41 : mm_code 206 41 = some (.ireturn, 1, 0, 0, []) := rfl
theorem rw_208_0 : mm_code 208 0 = some (.aload_n 0, 1, 0, 0, []) := rfl
theorem rw_208_1 : mm_code 208 1 = some (.iconst 0, 1, 0, 0, []) := rfl
theorem rw_208_2 : mm_code 208 2 = some (.putfield 163, 3, 11, 2, [0, 51]) := rfl
theorem rw_208_5 : mm_code 208 5 = some (.iload_n 1, 1, 0, 0, []) := rfl
theorem rw_208_6 : mm_code 208 6 = some (.invokestatic 346, 3, 205, 1, [108, 0]) := rfl
theorem rw_208_9 : mm_code 208 9 = some (.ifCond .ne 5, 3, 14, 0, []) := rfl
theorem rw_208_12 : mm_code 208 12 = some (.iconst (-1), 1, 1, 1, []) := rfl
theorem rw_208_13 : mm_code 208 13 = some (.ireturn, 1, 0, 0, []) := rfl
theorem rw_208_14 : mm_code 208 14 = some (.aload_n 0, 1, 0, 0, []) := rfl
theorem rw_208_15 : mm_code 208 15 = some (.aload_n 0, 1, 0, 0, []) := rfl
theorem rw_208_16 : mm_code 208 16 = some (.getfield 242, 3, 11, 29, [0, 76]) := rfl
theorem rw_208_19 : mm_code 208 19 = some (.invokevirtual 326, 3, 189, 2, [102, 0]) := rfl
theorem rw_208_22 : mm_code 208 22 = some (.iconst 0, 1, 0, 0, []) := rfl
theorem rw_208_23 : mm_code 208 23 = some (.istore 4, 2, 0, 0, []) := rfl
theorem rw_208_25 : mm_code 208 25 = some (.iconst 0, 1, 0, 0, []) := rfl
theorem rw_208_26 : mm_code 208 26 = some (.istore 5, 2, 0, 0, []) := rfl
theorem rw_208_28 : mm_code 208 28 = some (.iload 5, 2, 0, 0, []) := rfl
theorem rw_208_30 : mm_code 208 30 = some (.aload_n 0, 1, 0, 0, []) := rfl
theorem rw_208_31 : mm_code 208 31 = some (.getfield 82, 3, 11, 40, [3, 24]) := rfl
theorem rw_208_34 : mm_code 208 34 = some (.iload_n 1, 1, 0, 0, []) := rfl
theorem rw_208_35 : mm_code 208 35 = some (.iaload, 1, 0, 0, []) := rfl
theorem rw_208_36 : mm_code 208 36 = some (.if_icmp .ge 52, 3, 88, 0, []) := rfl
theorem rw_208_88 : mm_code 208 88 = some (.iload 4, 2, 0, 0, []) := rfl
theorem rw_208_90 : mm_code 208 90 = some (.ireturn, 1, 0, 0, []) := rfl
theorem rw_219_0 : mm_code 219 0 = some (.aload_n 0, 1, 0, 0, []) := rfl
theorem rw_219_1 : mm_code 219 1 = some (.iconst 0, 1, 0, 0, []) := rfl
theorem rw_219_2 : mm_code 219 2 = some (.putfield 163, 3, 11, 2, [0, 51]) := rfl
theorem rw_219_5 : mm_code 219 5 = some (.aload_n 0, 1, 0, 0, []) := rfl
theorem rw_219_6 : mm_code 219 6 = some (.iload_n 1, 1, 0, 0, []) := rfl
theorem rw_219_7 : mm_code 219 7 = some (.invokevirtual 283, 3, 163, 2, [88, 0]) := rfl
theorem rw_219_10 : mm_code 219 10 = some (.ifCond .ne 6, 3, 16, 0, []) := rfl
theorem rw_219_13 : mm_code 219 13 = some (.bipush (-2), 2, 2, 1, []) := rfl
theorem rw_219_15 : mm_code 219 15 = some (.ireturn, 1, 0, 0, []) := rfl
theorem rw_227_0 : mm_code 227 0 = some (.aload_n 0, 1, 0, 0, []) := rfl
theorem rw_227_1 : mm_code 227 1 = some (.iconst 0, 1, 0, 0, []) := rfl
theorem rw_227_2 : mm_code 227 2 = some (.putfield 163, 3, 11, 2, [0, 51]) := rfl
theorem rw_227_5 : mm_code 227 5 = some (.aload_n 0, 1, 0, 0, []) := rfl
theorem rw_227_6 : mm_code 227 6 = some (.iload_n 1, 1, 0, 0, []) := rfl
theorem rw_227_7 : mm_code 227 7 = some (.invokevirtual 283, 3, 163, 2, [88, 0]) := rfl
theorem rw_227_10 : mm_code 227 10 = some (.ifCond .ne 6, 3, 16, 0, []) := rfl
theorem rw_227_13 : mm_code 227 13 = some (.bipush (-2), 2, 2, 1, []) := rfl
theorem rw_227_15 : mm_code 227 15 = some (.ireturn, 1, 0, 0, []) := rfl
theorem rw_229_0 : mm_code 229 0 = some (.aload_n 0, 1, 0, 0, []) := rfl
theorem rw_229_1 : mm_code 229 1 = some (.iconst 0, 1, 0, 0, []) := rfl
theorem rw_229_2 : mm_code 229 2 = some (.putfield 163, 3, 11, 2, [0, 51]) := rfl
theorem rw_229_5 : mm_code 229 5 = some (.aload_n 0, 1, 0, 0, []) := rfl
theorem rw_229_6 : mm_code 229 6 = some (.getfield 248, 3, 11, 57, [1, 78]) := rfl
theorem rw_229_9 : mm_code 229 9 = some (.ifCond .eq 20, 3, 29, 0, []) := rfl
theorem rw_229_29 : mm_code 229 29 = some (.iconst (-1), 1, 1, 1, []) := rfl
theorem rw_229_30 : mm_code 229 30 = some (.ireturn, 1, 0, 0, []) := rfl
theorem rw_233_0 : mm_code 233 0 = some (.aload_n 0, 1, 0, 0, []) := rfl
theorem rw_233_1 : mm_code 233 1 = some (.iconst 0, 1, 0, 0, []) := rfl
theorem rw_233_2 : mm_code 233 2 = some (.putfield 163, 3, 11, 2, [0, 51]) := rfl
theorem rw_233_5 : mm_code 233 5 = some (.aload_n 0, 1, 0, 0, []) := rfl
theorem rw_233_6 : mm_code 233 6 = some (.iload_n 1, 1, 0, 0, []) := rfl
theorem rw_233_7 : mm_code 233 7 = some (.invokevirtual 320, 3, 186, 2, [100, 0]) := rfl
theorem rw_233_10 : mm_code 233 10 = some (.ifCond .eq 20, 3, 30, 0, []) := rfl
theorem rw_233_13 : mm_code 233 13 = some (.aload_n 0, 1, 0, 0, []) := rfl
theorem rw_233_14 : mm_code 233 14 = some (.iload_n 2, 1, 0, 0, []) := rfl
theorem rw_233_15 : mm_code 233 15 = some (.invokevirtual 323, 3, 180, 2, [101, 0]) := rfl
theorem rw_233_18 : mm_code 233 18 = some (.ifCond .eq 12, 3, 30, 0, []) := rfl
theorem rw_233_30 : mm_code 233 30 = some (.ldc2_w 315, 3, 1, 1, [98]) := rfl
theorem rw_233_33 : mm_code 233 33 = some (.lreturn, 1, 0, 0, []) := rfl
theorem rw_235_0 : mm_code 235 0 = some (.aload_n 0, 1, 0, 0, []) := rfl
theorem rw_235_1 : mm_code 235 1 = some (.iconst 0, 1, 0, 0, []) := rfl
theorem rw_235_2 : mm_code 235 2 = some (.putfield 163, 3, 11, 2, [0, 51]) := rfl
theorem rw_235_5 : mm_code 235 5 = some (.aload_n 0, 1, 0, 0, []) := rfl
theorem rw_235_6 : mm_code 235 6 = some (.iload_n 1, 1, 0, 0, []) := rfl
theorem rw_235_7 : mm_code 235 7 = some (.invokevirtual 320, 3, 186, 2, [100, 0]) := rfl
theorem rw_235_10 : mm_code 235 10 = some (.ifCond .eq 11, 3, 21, 0, []) := rfl
theorem rw_235_13 : mm_code 235 13 = some (.aload_n 0, 1, 0, 0, []) := rfl
theorem rw_235_14 : mm_code 235 14 = some (.iload_n 2, 1, 0, 0, []) := rfl
theorem rw_235_15 : mm_code 235 15 = some (.invokevirtual 323, 3, 180, 2, [101, 0]) := rfl
theorem rw_235_18 : mm_code 235 18 = some (.ifCond .ne 5, 3, 23, 0, []) := rfl
theorem rw_235_21 : mm_code 235 21 = some (.iconst (-1), 1, 1, 1, []) := rfl
theorem rw_235_22 : mm_code 235 22 = some (.ireturn, 1, 0, 0, []) := rfl
theorem rw_237_0 : mm_code 237 0 = some (.aload_n 0, 1, 0, 0, []) := rfl
theorem rw_237_1 : mm_code 237 1 = some (.iconst 0, 1, 0, 0, []) := rfl
theorem rw_237_2 : mm_code 237 2 = some (.putfield 163, 3, 11, 2, [0, 51]) := rfl
theorem rw_237_5 : mm_code 237 5 = some (.aload_n 0, 1, 0, 0, []) := rfl
theorem rw_237_6 : mm_code 237 6 = some (.iload_n 1, 1, 0, 0, []) := rfl
theorem rw_237_7 : mm_code 237 7 = some (.invokevirtual 320, 3, 186, 2, [100, 0]) := rfl
theorem rw_237_10 : mm_code 237 10 = some (.ifCond .eq 11, 3, 21, 0, []) := rfl
theorem rw_237_13 : mm_code 237 13 = some (.aload_n 0, 1, 0, 0, []) := rfl
theorem rw_237_14 : mm_code 237 14 = some (.iload_n 2, 1, 0, 0, []) := rfl
theorem rw_237_15 : mm_code 237 15 = some (.invokevirtual 323, 3, 180, 2, [101, 0]) := rfl
theorem rw_237_18 : mm_code 237 18 = some (.ifCond .ne 5, 3, 23, 0, []) := rfl
theorem rw_237_21 : mm_code 237 21 = some (.iconst (-1), 1, 1, 1, []) := rfl
theorem rw_237_22 : mm_code 237 22 = some (.ireturn, 1, 0, 0, []) := rfl
theorem rw_238_0 : mm_code 238 0 = some (.aload_n 0, 1, 0, 0, []) := rfl
theorem rw_238_1 : mm_code 238 1 = some (.iconst 0, 1, 0, 0, []) := rfl
theorem rw_238_2 : mm_code 238 2 = some (.putfield 163, 3, 11, 2, [0, 51]) := rfl
theorem rw_238_5 : mm_code 238 5 = some (.aload_n 0, 1, 0, 0, []) := rfl
theorem rw_238_6 : mm_code 238 6 = some (.iload_n 1, 1, 0, 0, []) := rfl
theorem rw_238_7 : mm_code 238 7 = some (.invokevirtual 320, 3, 186, 2, [100, 0]) := rfl
theorem rw_238_10 : mm_code 238 10 = some (.ifCond .eq 40, 3, 50, 0, []) := rfl
theorem rw_238_13 : mm_code 238 13 = some (.aload_n 0, 1, 0, 0, []) := rfl
theorem rw_238_14 : mm_code 238 14 = some (.iload_n 2, 1, 0, 0, []) := rfl
theorem rw_238_15 : mm_code 238 15 = some (.invokevirtual 329, 3, 187, 2, [103, 0]) := rfl
theorem rw_238_18 : mm_code 238 18 = some (.ifCond .eq 32, 3, 50, 0, []) := rfl
theorem rw_238_50 : mm_code 238 50 = some (.bipush (-2), 2, 2, 1, []) := rfl
theorem rw_238_52 : mm_code 238 52 = some (.ireturn, 1, 0, 0, []) := rfl
theorem rw_242_0 : mm_code 242 0 = some (.aload_n 0, 1, 0, 0, []) := rfl
theorem rw_242_1 : mm_code 242 1 = some (.iconst 0, 1, 0, 0, []) := rfl
theorem rw_242_2 : mm_code 242 2 = some (.putfield 163, 3, 11, 2, [0, 51]) := rfl
theorem rw_242_5 : mm_code 242 5 = some (.iload_n 1, 1, 0, 0, []) := rfl
theorem rw_242_6 : mm_code 242 6 = some (.invokestatic 346, 3, 205, 1, [108, 0]) := rfl
theorem rw_242_9 : mm_code 242 9 = some (.ifCond .eq 11, 3, 20, 0, []) := rfl
theorem rw_242_12 : mm_code 242 12 = some (.aload_n 0, 1, 0, 0, []) := rfl
theorem rw_242_13 : mm_code 242 13 = some (.iload_n 2, 1, 0, 0, []) := rfl
theorem rw_242_14 : mm_code 242 14 = some (.invokevirtual 302, 3, 179, 2, [94, 0]) := rfl
theorem rw_242_17 : mm_code 242 17 = some (.ifCond .ne 5, 3, 22, 0, []) := rfl
theorem rw_242_20 : mm_code 242 20 = some (.iconst (-1), 1, 1, 1, []) := rfl
theorem rw_242_21 : mm_code 242 21 = some (.ireturn, 1, 0, 0, []) := rfl
theorem rw_245_0 : mm_code 245 0 = some (.aload_n 0, 1, 0, 0, []) := rfl
theorem rw_245_1 : mm_code 245 1 = some (.iconst 0, 1, 0, 0, []) := rfl
theorem rw_245_2 : mm_code 245 2 = some (.putfield 163, 3, 11, 2, [0, 51]) := rfl
theorem rw_245_5 : mm_code 245 5 = some (.iload_n 1, 1, 0, 0, []) := rfl
theorem rw_245_6 : mm_code 245 6 = some (.invokestatic 346, 3, 205, 1, [108, 0]) := rfl
theorem rw_245_9 : mm_code 245 9 = some (.ifCond .eq 31, 3, 40, 0, []) := rfl
theorem rw_245_12 : mm_code 245 12 = some (.aload_n 0, 1, 0, 0, []) := rfl
theorem rw_245_13 : mm_code 245 13 = some (.iload_n 2, 1, 0, 0, []) := rfl
theorem rw_245_14 : mm_code 245 14 = some (.invokevirtual 302, 3, 179, 2, [94, 0]) := rfl
theorem rw_245_17 : mm_code 245 17 = some (.ifCond .eq 23, 3, 40, 0, []) := rfl
theorem rw_245_40 : mm_code 245 40 = some (.iconst (-1), 1, 1, 1, []) := rfl
theorem rw_245_41 : mm_code 245 41 = some (.ireturn, 1, 0, 0, []) := rfl
theorem rw_246_0 : mm_code 246 0 = some (.aload_n 0, 1, 0, 0, []) := rfl
theorem rw_246_1 : mm_code 246 1 = some (.iconst 0, 1, 0, 0, []) := rfl
theorem rw_246_2 : mm_code 246 2 = some (.putfield 163, 3, 11, 2, [0, 51]) := rfl
theorem rw_246_5 : mm_code 246 5 = some (.iload_n 1, 1, 0, 0, []) := rfl
theorem rw_246_6 : mm_code 246 6 = some (.tableswitch 86 0 7 #[46, 51, 56, 61, 66, 71, 76, 81], 46, 92, 0, [52, 57, 62, 67, 72, 77, 82, 87]) := rfl
theorem rw_246_52 : mm_code 246 52 = some (.aload_n 0, 1, 0, 0, []) := rfl
theorem rw_246_53 : mm_code 246 53 = some (.getfield 230, 3, 11, 11, [0, 72]) := rfl
theorem rw_246_56 : mm_code 246 56 = some (.ireturn, 1, 0, 0, []) := rfl
theorem rw_246_57 : mm_code 246 57 = some (.aload_n 0, 1, 0, 0, []) := rfl
theorem rw_246_58 : mm_code 246 58 = some (.getfield 233, 3, 11, 12, [0, 73]) := rfl
theorem rw_246_61 : mm_code 246 61 = some (.ireturn, 1, 0, 0, []) := rfl
theorem rw_246_62 : mm_code 246 62 = some (.aload_n 0, 1, 0, 0, []) := rfl
theorem rw_246_63 : mm_code 246 63 = some (.getfield 236, 3, 11, 13, [0, 74]) := rfl
theorem rw_246_66 : mm_code 246 66 = some (.ireturn, 1, 0, 0, []) := rfl
theorem rw_246_67 : mm_code 246 67 = some (.aload_n 0, 1, 0, 0, []) := rfl
theorem rw_246_68 : mm_code 246 68 = some (.getfield 239, 3, 11, 28, [0, 75]) := rfl
theorem rw_246_71 : mm_code 246 71 = some (.ireturn, 1, 0, 0, []) := rfl
theorem rw_246_72 : mm_code 246 72 = some (.aload_n 0, 1, 0, 0, []) := rfl
theorem rw_246_73 : mm_code 246 73 = some (.getfield 242, 3, 11, 29, [0, 76]) := rfl
theorem rw_246_76 : mm_code 246 76 = some (.ireturn, 1, 0, 0, []) := rfl
theorem rw_246_77 : mm_code 246 77 = some (.aload_n 0, 1, 0, 0, []) := rfl
theorem rw_246_78 : mm_code 246 78 = some (.getfield 245, 3, 11, 58, [0, 77]) := rfl
theorem rw_246_81 : mm_code 246 81 = some (.ireturn, 1, 0, 0, []) := rfl
theorem rw_246_82 : mm_code 246 82 = some (.aload_n 0, 1, 0, 0, []) := rfl
theorem rw_246_83 : mm_code 246 83 = some (.getfield 380, 3, 11, 42, [0, 119]) := rfl
theorem rw_246_86 : mm_code 246 86 = some (.ireturn, 1, 0, 0, []) := rfl
theorem rw_246_87 : mm_code 246 87 = some (.aload_n 0, 1, 0, 0, []) := rfl
theorem rw_246_88 : mm_code 246 88 = some (.getfield 383, 3, 11, 43, [0, 120]) := rfl
theorem rw_246_91 : mm_code 246 91 = some (.ireturn, 1, 0, 0, []) := rfl
theorem rw_246_92 : mm_code 246 92 = some (.iconst (-1), 1, 1, 1, []) := rfl
theorem rw_246_93 : mm_code 246 93 = some (.ireturn, 1, 0, 0, []) := rfl
