theorem dL_law_18 : decode cL_law 18 = .ok (.iload_n 3, 1) := by decide +kernel
theorem dL_law_19 : decode cL_law 19 = .ok (.aload_n 0, 1) := by decide +kernel
theorem dL_law_20 : decode cL_law 20 = .ok (.arraylength, 1) := by decide +kernel
theorem dL_law_21 : decode cL_law 21 = .ok (.bipush 6, 2) := by decide +kernel
theorem dL_law_23 : decode cL_law 23 = .ok (.isub, 1) := by decide +kernel
theorem dL_law_24 : decode cL_law 24 = .ok (.if_icmp .gt 1677, 3) := by decide +kernel
theorem dL_law_27 : decode cL_law 27 = .ok (.aload_n 0, 1) := by decide +kernel
theorem dL_law_28 : decode cL_law 28 = .ok (.iload_n 3, 1) := by decide +kernel
theorem dL_law_29 : decode cL_law 29 = .ok (.iaload, 1) := by decide +kernel
theorem dL_law_30 : decode cL_law 30 = .ok (.bipush 63, 2) := by decide +kernel
theorem dL_law_32 : decode cL_law 32 = .ok (.iand, 1) := by decide +kernel
theorem dL_law_33 : decode cL_law 33 = .ok (.tableswitch 1662 0 36 #[163, 186, 219, 262, 295, 328, 407, 470, 523, 546, 579, 632, 685, 718, 761, 804, 837, 916, 985, 1008, 1041, 1064, 1107, 1150, 1193, 1216, 1259, 1302, 1345, 1388, 1431, 1464, 1507, 1550, 1613, 1636, 1649], 163) := by decide +kernel
theorem dL_law_196 : decode cL_law 196 = .ok (.aload_n 1, 1) := by decide +kernel
theorem dL_law_197 : decode cL_law 197 = .ok (.aload_n 0, 1) := by decide +kernel
theorem dL_law_198 : decode cL_law 198 = .ok (.iload_n 3, 1) := by decide +kernel
theorem dL_law_199 : decode cL_law 199 = .ok (.iconst 1, 1) := by decide +kernel
theorem dL_law_200 : decode cL_law 200 = .ok (.iadd, 1) := by decide +kernel
theorem dL_law_201 : decode cL_law 201 = .ok (.iaload, 1) := by decide +kernel
theorem dL_law_205 : decode cL_law 205 = .ok (.pop, 1) := by decide +kernel
theorem dL_law_206 : decode cL_law 206 = .ok (.aload_n 2, 1) := by decide +kernel
theorem dL_law_207 : decode cL_law 207 = .ok (.aload_n 0, 1) := by decide +kernel
theorem dL_law_208 : decode cL_law 208 = .ok (.iload_n 3, 1) := by decide +kernel
theorem dL_law_209 : decode cL_law 209 = .ok (.iconst 1, 1) := by decide +kernel
theorem dL_law_210 : decode cL_law 210 = .ok (.iadd, 1) := by decide +kernel
theorem dL_law_211 : decode cL_law 211 = .ok (.iaload, 1) := by decide +kernel
theorem dL_law_215 : decode cL_law 215 = .ok (.pop, 1) := by decide +kernel
theorem dL_law_216 : decode cL_law 216 = .ok (.goto 1479, 3) := by decide +kernel
theorem dL_law_219 : decode cL_law 219 = .ok (.aload_n 1, 1) := by decide +kernel
theorem dL_law_220 : decode cL_law 220 = .ok (.aload_n 0, 1) := by decide +kernel
theorem dL_law_221 : decode cL_law 221 = .ok (.iload_n 3, 1) := by decide +kernel
theorem dL_law_222 : decode cL_law 222 = .ok (.iconst 1, 1) := by decide +kernel
theorem dL_law_223 : decode cL_law 223 = .ok (.iadd, 1) := by decide +kernel
theorem dL_law_224 : decode cL_law 224 = .ok (.iaload, 1) := by decide +kernel
theorem dL_law_225 : decode cL_law 225 = .ok (.aload_n 0, 1) := by decide +kernel
theorem dL_law_226 : decode cL_law 226 = .ok (.iload_n 3, 1) := by decide +kernel
theorem dL_law_227 : decode cL_law 227 = .ok (.iconst 2, 1) := by decide +kernel
theorem dL_law_228 : decode cL_law 228 = .ok (.iadd, 1) := by decide +kernel
theorem dL_law_229 : decode cL_law 229 = .ok (.iaload, 1) := by decide +kernel
theorem dL_law_233 : decode cL_law 233 = .ok (.pop, 1) := by decide +kernel
theorem dL_law_234 : decode cL_law 234 = .ok (.aload_n 2, 1) := by decide +kernel
theorem dL_law_235 : decode cL_law 235 = .ok (.aload_n 0, 1) := by decide +kernel
theorem dL_law_236 : decode cL_law 236 = .ok (.iload_n 3, 1) := by decide +kernel
theorem dL_law_237 : decode cL_law 237 = .ok (.iconst 1, 1) := by decide +kernel
theorem dL_law_238 : decode cL_law 238 = .ok (.iadd, 1) := by decide +kernel
theorem dL_law_239 : decode cL_law 239 = .ok (.iaload, 1) := by decide +kernel
theorem dL_law_240 : decode cL_law 240 = .ok (.aload_n 0, 1) := by decide +kernel
theorem dL_law_241 : decode cL_law 241 = .ok (.iload_n 3, 1) := by decide +kernel
theorem dL_law_242 : decode cL_law 242 = .ok (.iconst 2, 1) := by decide +kernel
theorem dL_law_243 : decode cL_law 243 = .ok (.iadd, 1) := by decide +kernel
theorem dL_law_244 : decode cL_law 244 = .ok (.iaload, 1) := by decide +kernel
theorem dL_law_248 : decode cL_law 248 = .ok (.pop, 1) := by decide +kernel
theorem dL_law_249 : decode cL_law 249 = .ok (.goto 1446, 3) := by decide +kernel
theorem dL_law_252 : decode cL_law 252 = .ok (.aload_n 1, 1) := by decide +kernel
theorem dL_law_253 : decode cL_law 253 = .ok (.aload_n 0, 1) := by decide +kernel
theorem dL_law_254 : decode cL_law 254 = .ok (.iload_n 3, 1) := by decide +kernel
theorem dL_law_255 : decode cL_law 255 = .ok (.iconst 1, 1) := by decide +kernel
theorem dL_law_256 : decode cL_law 256 = .ok (.iadd, 1) := by decide +kernel
theorem dL_law_257 : decode cL_law 257 = .ok (.iaload, 1) := by decide +kernel
theorem dL_law_258 : decode cL_law 258 = .ok (.aload_n 0, 1) := by decide +kernel
theorem dL_law_259 : decode cL_law 259 = .ok (.iload_n 3, 1) := by decide +kernel
theorem dL_law_260 : decode cL_law 260 = .ok (.iconst 2, 1) := by decide +kernel
theorem dL_law_261 : decode cL_law 261 = .ok (.iadd, 1) := by decide +kernel
theorem dL_law_262 : decode cL_law 262 = .ok (.iaload, 1) := by decide +kernel
theorem dL_law_263 : decode cL_law 263 = .ok (.aload_n 0, 1) := by decide +kernel
theorem dL_law_264 : decode cL_law 264 = .ok (.iload_n 3, 1) := by decide +kernel
theorem dL_law_265 : decode cL_law 265 = .ok (.iconst 3, 1) := by decide +kernel
theorem dL_law_266 : decode cL_law 266 = .ok (.iadd, 1) := by decide +kernel
theorem dL_law_267 : decode cL_law 267 = .ok (.iaload, 1) := by decide +kernel
theorem dL_law_271 : decode cL_law 271 = .ok (.pop, 1) := by decide +kernel
theorem dL_law_272 : decode cL_law 272 = .ok (.aload_n 2, 1) := by decide +kernel
theorem dL_law_273 : decode cL_law 273 = .ok (.aload_n 0, 1) := by decide +kernel
theorem dL_law_274 : decode cL_law 274 = .ok (.iload_n 3, 1) := by decide +kernel
theorem dL_law_275 : decode cL_law 275 = .ok (.iconst 1, 1) := by decide +kernel
theorem dL_law_276 : decode cL_law 276 = .ok (.iadd, 1) := by decide +kernel
theorem dL_law_277 : decode cL_law 277 = .ok (.iaload, 1) := by decide +kernel
theorem dL_law_278 : decode cL_law 278 = .ok (.aload_n 0, 1) := by decide +kernel
theorem dL_law_279 : decode cL_law 279 = .ok (.iload_n 3, 1) := by decide +kernel
theorem dL_law_280 : decode cL_law 280 = .ok (.iconst 2, 1) := by decide +kernel
theorem dL_law_281 : decode cL_law 281 = .ok (.iadd, 1) := by decide +kernel
theorem dL_law_282 : decode cL_law 282 = .ok (.iaload, 1) := by decide +kernel
theorem dL_law_283 : decode cL_law 283 = .ok (.aload_n 0, 1) := by decide +kernel
theorem dL_law_284 : decode cL_law 284 = .ok (.iload_n 3, 1) := by decide +kernel
theorem dL_law_285 : decode cL_law 285 = .ok (.iconst 3, 1) := by decide +kernel
theorem dL_law_286 : decode cL_law 286 = .ok (.iadd, 1) := by decide +kernel
theorem dL_law_287 : decode cL_law 287 = .ok (.iaload, 1) := by decide +kernel
theorem dL_law_291 : decode cL_law 291 = .ok (.pop, 1) := by decide +kernel
theorem dL_law_292 : decode cL_law 292 = .ok (.goto 1403, 3) := by decide +kernel
theorem dL_law_295 : decode cL_law 295 = .ok (.aload_n 1, 1) := by decide +kernel
theorem dL_law_296 : decode cL_law 296 = .ok (.aload_n 0, 1) := by decide +kernel
theorem dL_law_297 : decode cL_law 297 = .ok (.iload_n 3, 1) := by decide +kernel
theorem dL_law_298 : decode cL_law 298 = .ok (.iconst 1, 1) := by decide +kernel
theorem dL_law_299 : decode cL_law 299 = .ok (.iadd, 1) := by decide +kernel
theorem dL_law_300 : decode cL_law 300 = .ok (.iaload, 1) := by decide +kernel
theorem dL_law_301 : decode cL_law 301 = .ok (.aload_n 0, 1) := by decide +kernel
theorem dL_law_302 : decode cL_law 302 = .ok (.iload_n 3, 1) := by decide +kernel
theorem dL_law_303 : decode cL_law 303 = .ok (.iconst 2, 1) := by decide +kernel
theorem dL_law_304 : decode cL_law 304 = .ok (.iadd, 1) := by decide +kernel
theorem dL_law_305 : decode cL_law 305 = .ok (.iaload, 1) := by decide +kernel
theorem dL_law_309 : decode cL_law 309 = .ok (.pop, 1) := by decide +kernel
theorem dL_law_310 : decode cL_law 310 = .ok (.aload_n 2, 1) := by decide +kernel
theorem dL_law_311 : decode cL_law 311 = .ok (.aload_n 0, 1) := by decide +kernel
theorem dL_law_312 : decode cL_law 312 = .ok (.iload_n 3, 1) := by decide +kernel
theorem dL_law_313 : decode cL_law 313 = .ok (.iconst 1, 1) := by decide +kernel
theorem dL_law_314 : decode cL_law 314 = .ok (.iadd, 1) := by decide +kernel
theorem dL_law_315 : decode cL_law 315 = .ok (.iaload, 1) := by decide +kernel
theorem dL_law_316 : decode cL_law 316 = .ok (.aload_n 0, 1) := by decide +kernel
theorem dL_law_317 : decode cL_law 317 = .ok (.iload_n 3, 1) := by decide +kernel
theorem dL_law_318 : decode cL_law 318 = .ok (.iconst 2, 1) := by decide +kernel
theorem dL_law_319 : decode cL_law 319 = .ok (.iadd, 1) := by decide +kernel
theorem dL_law_320 : decode cL_law 320 = .ok (.iaload, 1) := by decide +kernel
theorem dL_law_324 : decode cL_law 324 = .ok (.pop, 1) := by decide +kernel
theorem dL_law_325 : decode cL_law 325 = .ok (.goto 1370, 3) := by decide +kernel
theorem dL_law_328 : decode cL_law 328 = .ok (.aload_n 1, 1) := by decide +kernel
theorem dL_law_329 : decode cL_law 329 = .ok (.aload_n 0, 1) := by decide +kernel
theorem dL_law_330 : decode cL_law 330 = .ok (.iload_n 3, 1) := by decide +kernel
theorem dL_law_331 : decode cL_law 331 = .ok (.iconst 1, 1) := by decide +kernel
theorem dL_law_332 : decode cL_law 332 = .ok (.iadd, 1) := by decide +kernel
theorem dL_law_333 : decode cL_law 333 = .ok (.iaload, 1) := by decide +kernel
theorem dL_law_334 : decode cL_law 334 = .ok (.aload_n 0, 1) := by decide +kernel
theorem dL_law_335 : decode cL_law 335 = .ok (.iload_n 3, 1) := by decide +kernel
theorem dL_law_336 : decode cL_law 336 = .ok (.iconst 2, 1) := by decide +kernel
theorem dL_law_337 : decode cL_law 337 = .ok (.iadd, 1) := by decide +kernel
theorem dL_law_338 : decode cL_law 338 = .ok (.iaload, 1) := by decide +kernel
theorem dL_law_342 : decode cL_law 342 = .ok (.pop, 1) := by decide +kernel
theorem dL_law_343 : decode cL_law 343 = .ok (.aload_n 2, 1) := by decide +kernel
theorem dL_law_344 : decode cL_law 344 = .ok (.aload_n 0, 1) := by decide +kernel
theorem dL_law_345 : decode cL_law 345 = .ok (.iload_n 3, 1) := by decide +kernel
theorem dL_law_346 : decode cL_law 346 = .ok (.iconst 1, 1) := by decide +kernel
theorem dL_law_347 : decode cL_law 347 = .ok (.iadd, 1) := by decide +kernel
theorem dL_law_348 : decode cL_law 348 = .ok (.iaload, 1) := by decide +kernel
theorem dL_law_349 : decode cL_law 349 = .ok (.aload_n 0, 1) := by decide +kernel
theorem dL_law_350 : decode cL_law 350 = .ok (.iload_n 3, 1) := by decide +kernel
theorem dL_law_351 : decode cL_law 351 = .ok (.iconst 2, 1) := by decide +kernel
theorem dL_law_352 : decode cL_law 352 = .ok (.iadd, 1) := by decide +kernel
theorem dL_law_353 : decode cL_law 353 = .ok (.iaload, 1) := by decide +kernel
theorem dL_law_357 : decode cL_law 357 = .ok (.pop, 1) := by decide +kernel
theorem dL_law_358 : decode cL_law 358 = .ok (.goto 1337, 3) := by decide +kernel
theorem dL_law_361 : decode cL_law 361 = .ok (.aload_n 1, 1) := by decide +kernel
theorem dL_law_362 : decode cL_law 362 = .ok (.aload_n 0, 1) := by decide +kernel
theorem dL_law_363 : decode cL_law 363 = .ok (.iload_n 3, 1) := by decide +kernel
theorem dL_law_364 : decode cL_law 364 = .ok (.iconst 1, 1) := by decide +kernel
theorem dL_law_365 : decode cL_law 365 = .ok (.iadd, 1) := by decide +kernel
theorem dL_law_366 : decode cL_law 366 = .ok (.iaload, 1) := by decide +kernel
theorem dL_law_367 : decode cL_law 367 = .ok (.aload_n 0, 1) := by decide +kernel
theorem dL_law_368 : decode cL_law 368 = .ok (.iload_n 3, 1) := by decide +kernel
theorem dL_law_369 : decode cL_law 369 = .ok (.iconst 2, 1) := by decide +kernel
theorem dL_law_370 : decode cL_law 370 = .ok (.iadd, 1) := by decide +kernel
theorem dL_law_371 : decode cL_law 371 = .ok (.iaload, 1) := by decide +kernel
theorem dL_law_372 : decode cL_law 372 = .ok (.aload_n 0, 1) := by decide +kernel
theorem dL_law_373 : decode cL_law 373 = .ok (.iload_n 3, 1) := by decide +kernel
theorem dL_law_374 : decode cL_law 374 = .ok (.iconst 3, 1) := by decide +kernel
theorem dL_law_375 : decode cL_law 375 = .ok (.iadd, 1) := by decide +kernel
theorem dL_law_376 : decode cL_law 376 = .ok (.iaload, 1) := by decide +kernel
theorem dL_law_377 : decode cL_law 377 = .ok (.aload_n 0, 1) := by decide +kernel
theorem dL_law_378 : decode cL_law 378 = .ok (.iload_n 3, 1) := by decide +kernel
theorem dL_law_379 : decode cL_law 379 = .ok (.iconst 4, 1) := by decide +kernel
theorem dL_law_380 : decode cL_law 380 = .ok (.iadd, 1) := by decide +kernel
theorem dL_law_381 : decode cL_law 381 = .ok (.iaload, 1) := by decide +kernel
theorem dL_law_382 : decode cL_law 382 = .ok (.aload_n 0, 1) := by decide +kernel
theorem dL_law_383 : decode cL_law 383 = .ok (.iload_n 3, 1) := by decide +kernel
theorem dL_law_384 : decode cL_law 384 = .ok (.iconst 5, 1) := by decide +kernel
theorem dL_law_385 : decode cL_law 385 = .ok (.iadd, 1) := by decide +kernel
theorem dL_law_386 : decode cL_law 386 = .ok (.iaload, 1) := by decide +kernel
theorem dL_law_387 : decode cL_law 387 = .ok (.ifCond .eq 7, 3) := by decide +kernel
theorem dL_law_390 : decode cL_law 390 = .ok (.iconst 1, 1) := by decide +kernel
theorem dL_law_391 : decode cL_law 391 = .ok (.goto 4, 3) := by decide +kernel
theorem dL_law_394 : decode cL_law 394 = .ok (.iconst 0, 1) := by decide +kernel
theorem dL_law_398 : decode cL_law 398 = .ok (.pop, 1) := by decide +kernel
theorem dL_law_399 : decode cL_law 399 = .ok (.aload_n 2, 1) := by decide +kernel
theorem dL_law_400 : decode cL_law 400 = .ok (.aload_n 0, 1) := by decide +kernel
theorem dL_law_401 : decode cL_law 401 = .ok (.iload_n 3, 1) := by decide +kernel
theorem dL_law_402 : decode cL_law 402 = .ok (.iconst 1, 1) := by decide +kernel
theorem dL_law_403 : decode cL_law 403 = .ok (.iadd, 1) := by decide +kernel
theorem dL_law_404 : decode cL_law 404 = .ok (.iaload, 1) := by decide +kernel
theorem dL_law_405 : decode cL_law 405 = .ok (.aload_n 0, 1) := by decide +kernel
theorem dL_law_406 : decode cL_law 406 = .ok (.iload_n 3, 1) := by decide +kernel
theorem dL_law_407 : decode cL_law 407 = .ok (.iconst 2, 1) := by decide +kernel
theorem dL_law_408 : decode cL_law 408 = .ok (.iadd, 1) := by decide +kernel
theorem dL_law_409 : decode cL_law 409 = .ok (.iaload, 1) := by decide +kernel
theorem dL_law_410 : decode cL_law 410 = .ok (.aload_n 0, 1) := by decide +kernel
theorem dL_law_411 : decode cL_law 411 = .ok (.iload_n 3, 1) := by decide +kernel
theorem dL_law_412 : decode cL_law 412 = .ok (.iconst 3, 1) := by decide +kernel
theorem dL_law_413 : decode cL_law 413 = .ok (.iadd, 1) := by decide +kernel
theorem dL_law_414 : decode cL_law 414 = .ok (.iaload, 1) := by decide +kernel
theorem dL_law_415 : decode cL_law 415 = .ok (.aload_n 0, 1) := by decide +kernel
theorem dL_law_416 : decode cL_law 416 = .ok (.iload_n 3, 1) := by decide +kernel
theorem dL_law_417 : decode cL_law 417 = .ok (.iconst 4, 1) := by decide +kernel
theorem dL_law_418 : decode cL_law 418 = .ok (.iadd, 1) := by decide +kernel
theorem dL_law_419 : decode cL_law 419 = .ok (.iaload, 1) := by decide +kernel
theorem dL_law_420 : decode cL_law 420 = .ok (.aload_n 0, 1) := by decide +kernel
theorem dL_law_421 : decode cL_law 421 = .ok (.iload_n 3, 1) := by decide +kernel
theorem dL_law_422 : decode cL_law 422 = .ok (.iconst 5, 1) := by decide +kernel
theorem dL_law_423 : decode cL_law 423 = .ok (.iadd, 1) := by decide +kernel
theorem dL_law_424 : decode cL_law 424 = .ok (.iaload, 1) := by decide +kernel
theorem dL_law_425 : decode cL_law 425 = .ok (.ifCond .eq 7, 3) := by decide +kernel
theorem dL_law_428 : decode cL_law 428 = .ok (.iconst 1, 1) := by decide +kernel
theorem dL_law_429 : decode cL_law 429 = .ok (.goto 4, 3) := by decide +kernel
theorem dL_law_432 : decode cL_law 432 = .ok (.iconst 0, 1) := by decide +kernel
theorem dL_law_436 : decode cL_law 436 = .ok (.pop, 1) := by decide +kernel
theorem dL_law_437 : decode cL_law 437 = .ok (.goto 1258, 3) := by decide +kernel
theorem dL_law_440 : decode cL_law 440 = .ok (.aload_n 1, 1) := by decide +kernel
theorem dL_law_441 : decode cL_law 441 = .ok (.aload_n 0, 1) := by decide +kernel
theorem dL_law_442 : decode cL_law 442 = .ok (.iload_n 3, 1) := by decide +kernel
theorem dL_law_443 : decode cL_law 443 = .ok (.iconst 1, 1) := by decide +kernel
theorem dL_law_444 : decode cL_law 444 = .ok (.iadd, 1) := by decide +kernel
theorem dL_law_445 : decode cL_law 445 = .ok (.iaload, 1) := by decide +kernel
theorem dL_law_446 : decode cL_law 446 = .ok (.aload_n 0, 1) := by decide +kernel
theorem dL_law_447 : decode cL_law 447 = .ok (.iload_n 3, 1) := by decide +kernel
theorem dL_law_448 : decode cL_law 448 = .ok (.iconst 2, 1) := by decide +kernel
theorem dL_law_449 : decode cL_law 449 = .ok (.iadd, 1) := by decide +kernel
theorem dL_law_450 : decode cL_law 450 = .ok (.iaload, 1) := by decide +kernel
theorem dL_law_451 : decode cL_law 451 = .ok (.aload_n 0, 1) := by decide +kernel
theorem dL_law_452 : decode cL_law 452 = .ok (.iload_n 3, 1) := by decide +kernel
theorem dL_law_453 : decode cL_law 453 = .ok (.iconst 3, 1) := by decide +kernel
theorem dL_law_454 : decode cL_law 454 = .ok (.iadd, 1) := by decide +kernel
theorem dL_law_455 : decode cL_law 455 = .ok (.iaload, 1) := by decide +kernel
theorem dL_law_456 : decode cL_law 456 = .ok (.aload_n 0, 1) := by decide +kernel
theorem dL_law_457 : decode cL_law 457 = .ok (.iload_n 3, 1) := by decide +kernel
theorem dL_law_458 : decode cL_law 458 = .ok (.iconst 4, 1) := by decide +kernel
theorem dL_law_459 : decode cL_law 459 = .ok (.iadd, 1) := by decide +kernel
theorem dL_law_460 : decode cL_law 460 = .ok (.iaload, 1) := by decide +kernel
theorem dL_law_461 : decode cL_law 461 = .ok (.aload_n 0, 1) := by decide +kernel
theorem dL_law_462 : decode cL_law 462 = .ok (.iload_n 3, 1) := by decide +kernel
theorem dL_law_463 : decode cL_law 463 = .ok (.iconst 5, 1) := by decide +kernel
theorem dL_law_464 : decode cL_law 464 = .ok (.iadd, 1) := by decide +kernel
theorem dL_law_465 : decode cL_law 465 = .ok (.iaload, 1) := by decide +kernel
theorem dL_law_469 : decode cL_law 469 = .ok (.pop, 1) := by decide +kernel
theorem dL_law_470 : decode cL_law 470 = .ok (.aload_n 2, 1) := by decide +kernel
theorem dL_law_471 : decode cL_law 471 = .ok (.aload_n 0, 1) := by decide +kernel
theorem dL_law_472 : decode cL_law 472 = .ok (.iload_n 3, 1) := by decide +kernel
theorem dL_law_473 : decode cL_law 473 = .ok (.iconst 1, 1) := by decide +kernel
theorem dL_law_474 : decode cL_law 474 = .ok (.iadd, 1) := by decide +kernel
theorem dL_law_475 : decode cL_law 475 = .ok (.iaload, 1) := by decide +kernel
theorem dL_law_476 : decode cL_law 476 = .ok (.aload_n 0, 1) := by decide +kernel
theorem dL_law_477 : decode cL_law 477 = .ok (.iload_n 3, 1) := by decide +kernel
theorem dL_law_478 : decode cL_law 478 = .ok (.iconst 2, 1) := by decide +kernel
theorem dL_law_479 : decode cL_law 479 = .ok (.iadd, 1) := by decide +kernel
theorem dL_law_480 : decode cL_law 480 = .ok (.iaload, 1) := by decide +kernel
theorem dL_law_481 : decode cL_law 481 = .ok (.aload_n 0, 1) := by decide +kernel
theorem dL_law_482 : decode cL_law 482 = .ok (.iload_n 3, 1) := by decide +kernel
theorem dL_law_483 : decode cL_law 483 = .ok (.iconst 3, 1) := by decide +kernel
theorem dL_law_484 : decode cL_law 484 = .ok (.iadd, 1) := by decide +kernel
theorem dL_law_485 : decode cL_law 485 = .ok (.iaload, 1) := by decide +kernel
theorem dL_law_486 : decode cL_law 486 = .ok (.aload_n 0, 1) := by decide +kernel
theorem dL_law_487 : decode cL_law 487 = .ok (.iload_n 3, 1) := by decide +kernel
theorem dL_law_488 : decode cL_law 488 = .ok (.iconst 4, 1) := by decide +kernel
theorem dL_law_489 : decode cL_law 489 = .ok (.iadd, 1) := by decide +kernel
theorem dL_law_490 : decode cL_law 490 = .ok (.iaload, 1) := by decide +kernel
theorem dL_law_491 : decode cL_law 491 = .ok (.aload_n 0, 1) := by decide +kernel
theorem dL_law_492 : decode cL_law 492 = .ok (.iload_n 3, 1) := by decide +kernel
theorem dL_law_493 : decode cL_law 493 = .ok (.iconst 5, 1) := by decide +kernel
theorem dL_law_494 : decode cL_law 494 = .ok (.iadd, 1) := by decide +kernel
theorem dL_law_495 : decode cL_law 495 = .ok (.iaload, 1) := by decide +kernel
theorem dL_law_499 : decode cL_law 499 = .ok (.pop, 1) := by decide +kernel
theorem dL_law_500 : decode cL_law 500 = .ok (.goto 1195, 3) := by decide +kernel
theorem dL_law_503 : decode cL_law 503 = .ok (.aload_n 1, 1) := by decide +kernel
theorem dL_law_504 : decode cL_law 504 = .ok (.aload_n 0, 1) := by decide +kernel
theorem dL_law_505 : decode cL_law 505 = .ok (.iload_n 3, 1) := by decide +kernel
theorem dL_law_506 : decode cL_law 506 = .ok (.iconst 1, 1) := by decide +kernel
theorem dL_law_507 : decode cL_law 507 = .ok (.iadd, 1) := by decide +kernel
theorem dL_law_508 : decode cL_law 508 = .ok (.iaload, 1) := by decide +kernel
theorem dL_law_509 : decode cL_law 509 = .ok (.aload_n 0, 1) := by decide +kernel
theorem dL_law_510 : decode cL_law 510 = .ok (.iload_n 3, 1) := by decide +kernel
theorem dL_law_511 : decode cL_law 511 = .ok (.iconst 2, 1) := by decide +kernel
theorem dL_law_512 : decode cL_law 512 = .ok (.iadd, 1) := by decide +kernel
theorem dL_law_513 : decode cL_law 513 = .ok (.iaload, 1) := by decide +kernel
theorem dL_law_514 : decode cL_law 514 = .ok (.aload_n 0, 1) := by decide +kernel
theorem dL_law_515 : decode cL_law 515 = .ok (.iload_n 3, 1) := by decide +kernel
theorem dL_law_516 : decode cL_law 516 = .ok (.iconst 3, 1) := by decide +kernel
theorem dL_law_517 : decode cL_law 517 = .ok (.iadd, 1) := by decide +kernel
theorem dL_law_518 : decode cL_law 518 = .ok (.iaload, 1) := by decide +kernel
theorem dL_law_519 : decode cL_law 519 = .ok (.aload_n 0, 1) := by decide +kernel
theorem dL_law_520 : decode cL_law 520 = .ok (.iload_n 3, 1) := by decide +kernel
theorem dL_law_521 : decode cL_law 521 = .ok (.iconst 4, 1) := by decide +kernel
theorem dL_law_522 : decode cL_law 522 = .ok (.iadd, 1) := by decide +kernel
theorem dL_law_523 : decode cL_law 523 = .ok (.iaload, 1) := by decide +kernel
theorem dL_law_527 : decode cL_law 527 = .ok (.pop, 1) := by decide +kernel
theorem dL_law_528 : decode cL_law 528 = .ok (.aload_n 2, 1) := by decide +kernel
theorem dL_law_529 : decode cL_law 529 = .ok (.aload_n 0, 1) := by decide +kernel
theorem dL_law_530 : decode cL_law 530 = .ok (.iload_n 3, 1) := by decide +kernel
theorem dL_law_531 : decode cL_law 531 = .ok (.iconst 1, 1) := by decide +kernel
theorem dL_law_532 : decode cL_law 532 = .ok (.iadd, 1) := by decide +kernel
theorem dL_law_533 : decode cL_law 533 = .ok (.iaload, 1) := by decide +kernel
theorem dL_law_534 : decode cL_law 534 = .ok (.aload_n 0, 1) := by decide +kernel
theorem dL_law_535 : decode cL_law 535 = .ok (.iload_n 3, 1) := by decide +kernel
theorem dL_law_536 : decode cL_law 536 = .ok (.iconst 2, 1) := by decide +kernel
theorem dL_law_537 : decode cL_law 537 = .ok (.iadd, 1) := by decide +kernel
theorem dL_law_538 : decode cL_law 538 = .ok (.iaload, 1) := by decide +kernel
theorem dL_law_539 : decode cL_law 539 = .ok (.aload_n 0, 1) := by decide +kernel
theorem dL_law_540 : decode cL_law 540 = .ok (.iload_n 3, 1) := by decide +kernel
theorem dL_law_541 : decode cL_law 541 = .ok (.iconst 3, 1) := by decide +kernel
theorem dL_law_542 : decode cL_law 542 = .ok (.iadd, 1) := by decide +kernel
theorem dL_law_543 : decode cL_law 543 = .ok (.iaload, 1) := by decide +kernel
theorem dL_law_544 : decode cL_law 544 = .ok (.aload_n 0, 1) := by decide +kernel
theorem dL_law_545 : decode cL_law 545 = .ok (.iload_n 3, 1) := by decide +kernel
theorem dL_law_546 : decode cL_law 546 = .ok (.iconst 4, 1) := by decide +kernel
theorem dL_law_547 : decode cL_law 547 = .ok (.iadd, 1) := by decide +kernel
theorem dL_law_548 : decode cL_law 548 = .ok (.iaload, 1) := by decide +kernel
theorem dL_law_552 : decode cL_law 552 = .ok (.pop, 1) := by decide +kernel
theorem dL_law_553 : decode cL_law 553 = .ok (.goto 1142, 3) := by decide +kernel
theorem dL_law_556 : decode cL_law 556 = .ok (.aload_n 1, 1) := by decide +kernel
theorem dL_law_557 : decode cL_law 557 = .ok (.aload_n 0, 1) := by decide +kernel
theorem dL_law_558 : decode cL_law 558 = .ok (.iload_n 3, 1) := by decide +kernel
theorem dL_law_559 : decode cL_law 559 = .ok (.iconst 1, 1) := by decide +kernel
theorem dL_law_560 : decode cL_law 560 = .ok (.iadd, 1) := by decide +kernel
theorem dL_law_561 : decode cL_law 561 = .ok (.iaload, 1) := by decide +kernel
theorem dL_law_565 : decode cL_law 565 = .ok (.pop, 1) := by decide +kernel
theorem dL_law_566 : decode cL_law 566 = .ok (.aload_n 2, 1) := by decide +kernel
theorem dL_law_567 : decode cL_law 567 = .ok (.aload_n 0, 1) := by decide +kernel
theorem dL_law_568 : decode cL_law 568 = .ok (.iload_n 3, 1) := by decide +kernel
theorem dL_law_569 : decode cL_law 569 = .ok (.iconst 1, 1) := by decide +kernel
theorem dL_law_570 : decode cL_law 570 = .ok (.iadd, 1) := by decide +kernel
theorem dL_law_571 : decode cL_law 571 = .ok (.iaload, 1) := by decide +kernel
theorem dL_law_575 : decode cL_law 575 = .ok (.pop, 1) := by decide +kernel
theorem dL_law_576 : decode cL_law 576 = .ok (.goto 1119, 3) := by decide +kernel
theorem dL_law_579 : decode cL_law 579 = .ok (.aload_n 1, 1) := by decide +kernel
theorem dL_law_580 : decode cL_law 580 = .ok (.aload_n 0, 1) := by decide +kernel
theorem dL_law_581 : decode cL_law 581 = .ok (.iload_n 3, 1) := by decide +kernel
theorem dL_law_582 : decode cL_law 582 = .ok (.iconst 1, 1) := by decide +kernel
theorem dL_law_583 : decode cL_law 583 = .ok (.iadd, 1) := by decide +kernel
theorem dL_law_584 : decode cL_law 584 = .ok (.iaload, 1) := by decide +kernel
theorem dL_law_585 : decode cL_law 585 = .ok (.aload_n 0, 1) := by decide +kernel
theorem dL_law_586 : decode cL_law 586 = .ok (.iload_n 3, 1) := by decide +kernel
theorem dL_law_587 : decode cL_law 587 = .ok (.iconst 2, 1) := by decide +kernel
theorem dL_law_588 : decode cL_law 588 = .ok (.iadd, 1) := by decide +kernel
theorem dL_law_589 : decode cL_law 589 = .ok (.iaload, 1) := by decide +kernel
theorem dL_law_593 : decode cL_law 593 = .ok (.pop, 1) := by decide +kernel
theorem dL_law_594 : decode cL_law 594 = .ok (.aload_n 2, 1) := by decide +kernel
theorem dL_law_595 : decode cL_law 595 = .ok (.aload_n 0, 1) := by decide +kernel
theorem dL_law_596 : decode cL_law 596 = .ok (.iload_n 3, 1) := by decide +kernel
theorem dL_law_597 : decode cL_law 597 = .ok (.iconst 1, 1) := by decide +kernel
theorem dL_law_598 : decode cL_law 598 = .ok (.iadd, 1) := by decide +kernel
theorem dL_law_599 : decode cL_law 599 = .ok (.iaload, 1) := by decide +kernel
theorem dL_law_600 : decode cL_law 600 = .ok (.aload_n 0, 1) := by decide +kernel
theorem dL_law_601 : decode cL_law 601 = .ok (.iload_n 3, 1) := by decide +kernel
theorem dL_law_602 : decode cL_law 602 = .ok (.iconst 2, 1) := by decide +kernel
theorem dL_law_603 : decode cL_law 603 = .ok (.iadd, 1) := by decide +kernel
theorem dL_law_604 : decode cL_law 604 = .ok (.iaload, 1) := by decide +kernel
theorem dL_law_608 : decode cL_law 608 = .ok (.pop, 1) := by decide +kernel
theorem dL_law_609 : decode cL_law 609 = .ok (.goto 1086, 3) := by decide +kernel
theorem dL_law_612 : decode cL_law 612 = .ok (.aload_n 1, 1) := by decide +kernel
theorem dL_law_613 : decode cL_law 613 = .ok (.aload_n 0, 1) := by decide +kernel
theorem dL_law_614 : decode cL_law 614 = .ok (.iload_n 3, 1) := by decide +kernel
theorem dL_law_615 : decode cL_law 615 = .ok (.iconst 1, 1) := by decide +kernel
theorem dL_law_616 : decode cL_law 616 = .ok (.iadd, 1) := by decide +kernel
theorem dL_law_617 : decode cL_law 617 = .ok (.iaload, 1) := by decide +kernel
theorem dL_law_618 : decode cL_law 618 = .ok (.aload_n 0, 1) := by decide +kernel
theorem dL_law_619 : decode cL_law 619 = .ok (.iload_n 3, 1) := by decide +kernel
theorem dL_law_620 : decode cL_law 620 = .ok (.iconst 2, 1) := by decide +kernel
theorem dL_law_621 : decode cL_law 621 = .ok (.iadd, 1) := by decide +kernel
theorem dL_law_622 : decode cL_law 622 = .ok (.iaload, 1) := by decide +kernel
theorem dL_law_623 : decode cL_law 623 = .ok (.aload_n 0, 1) := by decide +kernel
theorem dL_law_624 : decode cL_law 624 = .ok (.iload_n 3, 1) := by decide +kernel
theorem dL_law_625 : decode cL_law 625 = .ok (.iconst 3, 1) := by decide +kernel
theorem dL_law_626 : decode cL_law 626 = .ok (.iadd, 1) := by decide +kernel
theorem dL_law_627 : decode cL_law 627 = .ok (.iaload, 1) := by decide +kernel
theorem dL_law_628 : decode cL_law 628 = .ok (.aload_n 0, 1) := by decide +kernel
theorem dL_law_629 : decode cL_law 629 = .ok (.iload_n 3, 1) := by decide +kernel
theorem dL_law_630 : decode cL_law 630 = .ok (.iconst 4, 1) := by decide +kernel
theorem dL_law_631 : decode cL_law 631 = .ok (.iadd, 1) := by decide +kernel
theorem dL_law_632 : decode cL_law 632 = .ok (.iaload, 1) := by decide +kernel
theorem dL_law_636 : decode cL_law 636 = .ok (.pop, 1) := by decide +kernel
theorem dL_law_637 : decode cL_law 637 = .ok (.aload_n 2, 1) := by decide +kernel
theorem dL_law_638 : decode cL_law 638 = .ok (.aload_n 0, 1) := by decide +kernel
theorem dL_law_639 : decode cL_law 639 = .ok (.iload_n 3, 1) := by decide +kernel
theorem dL_law_640 : decode cL_law 640 = .ok (.iconst 1, 1) := by decide +kernel
theorem dL_law_641 : decode cL_law 641 = .ok (.iadd, 1) := by decide +kernel
theorem dL_law_642 : decode cL_law 642 = .ok (.iaload, 1) := by decide +kernel
theorem dL_law_643 : decode cL_law 643 = .ok (.aload_n 0, 1) := by decide +kernel
theorem dL_law_644 : decode cL_law 644 = .ok (.iload_n 3, 1) := by decide +kernel
theorem dL_law_645 : decode cL_law 645 = .ok (.iconst 2, 1) := by decide +kernel
theorem dL_law_646 : decode cL_law 646 = .ok (.iadd, 1) := by decide +kernel
theorem dL_law_647 : decode cL_law 647 = .ok (.iaload, 1) := by decide +kernel
theorem dL_law_648 : decode cL_law 648 = .ok (.aload_n 0, 1) := by decide +kernel
theorem dL_law_649 : decode cL_law 649 = .ok (.iload_n 3, 1) := by decide +kernel
theorem dL_law_650 : decode cL_law 650 = .ok (.iconst 3, 1) := by decide +kernel
theorem dL_law_651 : decode cL_law 651 = .ok (.iadd, 1) := by decide +kernel
theorem dL_law_652 : decode cL_law 652 = .ok (.iaload, 1) := by decide +kernel
theorem dL_law_653 : decode cL_law 653 = .ok (.aload_n 0, 1) := by decide +kernel
theorem dL_law_654 : decode cL_law 654 = .ok (.iload_n 3, 1) := by decide +kernel
theorem dL_law_655 : decode cL_law 655 = .ok (.iconst 4, 1) := by decide +kernel
theorem dL_law_656 : decode cL_law 656 = .ok (.iadd, 1) := by decide +kernel
theorem dL_law_657 : decode cL_law 657 = .ok (.iaload, 1) := by decide +kernel
theorem dL_law_661 : decode cL_law 661 = .ok (.pop, 1) := by decide +kernel
theorem dL_law_662 : decode cL_law 662 = .ok (.goto 1033, 3) := by decide +kernel
theorem dL_law_665 : decode cL_law 665 = .ok (.aload_n 1, 1) := by decide +kernel
theorem dL_law_666 : decode cL_law 666 = .ok (.aload_n 0, 1) := by decide +kernel
theorem dL_law_667 : decode cL_law 667 = .ok (.iload_n 3, 1) := by decide +kernel
theorem dL_law_668 : decode cL_law 668 = .ok (.iconst 1, 1) := by decide +kernel
theorem dL_law_669 : decode cL_law 669 = .ok (.iadd, 1) := by decide +kernel
theorem dL_law_670 : decode cL_law 670 = .ok (.iaload, 1) := by decide +kernel
theorem dL_law_671 : decode cL_law 671 = .ok (.aload_n 0, 1) := by decide +kernel
theorem dL_law_672 : decode cL_law 672 = .ok (.iload_n 3, 1) := by decide +kernel
theorem dL_law_673 : decode cL_law 673 = .ok (.iconst 2, 1) := by decide +kernel
theorem dL_law_674 : decode cL_law 674 = .ok (.iadd, 1) := by decide +kernel
theorem dL_law_675 : decode cL_law 675 = .ok (.iaload, 1) := by decide +kernel
theorem dL_law_676 : decode cL_law 676 = .ok (.aload_n 0, 1) := by decide +kernel
theorem dL_law_677 : decode cL_law 677 = .ok (.iload_n 3, 1) := by decide +kernel
theorem dL_law_678 : decode cL_law 678 = .ok (.iconst 3, 1) := by decide +kernel
theorem dL_law_679 : decode cL_law 679 = .ok (.iadd, 1) := by decide +kernel
theorem dL_law_680 : decode cL_law 680 = .ok (.iaload, 1) := by decide +kernel
theorem dL_law_681 : decode cL_law 681 = .ok (.aload_n 0, 1) := by decide +kernel
theorem dL_law_682 : decode cL_law 682 = .ok (.iload_n 3, 1) := by decide +kernel
theorem dL_law_683 : decode cL_law 683 = .ok (.iconst 4, 1) := by decide +kernel
theorem dL_law_684 : decode cL_law 684 = .ok (.iadd, 1) := by decide +kernel
theorem dL_law_685 : decode cL_law 685 = .ok (.iaload, 1) := by decide +kernel
theorem dL_law_689 : decode cL_law 689 = .ok (.pop, 1) := by decide +kernel
theorem dL_law_690 : decode cL_law 690 = .ok (.aload_n 2, 1) := by decide +kernel
theorem dL_law_691 : decode cL_law 691 = .ok (.aload_n 0, 1) := by decide +kernel
theorem dL_law_692 : decode cL_law 692 = .ok (.iload_n 3, 1) := by decide +kernel
theorem dL_law_693 : decode cL_law 693 = .ok (.iconst 1, 1) := by decide +kernel
theorem dL_law_694 : decode cL_law 694 = .ok (.iadd, 1) := by decide +kernel
theorem dL_law_695 : decode cL_law 695 = .ok (.iaload, 1) := by decide +kernel
theorem dL_law_696 : decode cL_law 696 = .ok (.aload_n 0, 1) := by decide +kernel
theorem dL_law_697 : decode cL_law 697 = .ok (.iload_n 3, 1) := by decide +kernel
theorem dL_law_698 : decode cL_law 698 = .ok (.iconst 2, 1) := by decide +kernel
theorem dL_law_699 : decode cL_law 699 = .ok (.iadd, 1) := by decide +kernel
theorem dL_law_700 : decode cL_law 700 = .ok (.iaload, 1) := by decide +kernel
theorem dL_law_701 : decode cL_law 701 = .ok (.aload_n 0, 1) := by decide +kernel
theorem dL_law_702 : decode cL_law 702 = .ok (.iload_n 3, 1) := by decide +kernel
theorem dL_law_703 : decode cL_law 703 = .ok (.iconst 3, 1) := by decide +kernel
theorem dL_law_704 : decode cL_law 704 = .ok (.iadd, 1) := by decide +kernel
theorem dL_law_705 : decode cL_law 705 = .ok (.iaload, 1) := by decide +kernel
theorem dL_law_706 : decode cL_law 706 = .ok (.aload_n 0, 1) := by decide +kernel
theorem dL_law_707 : decode cL_law 707 = .ok (.iload_n 3, 1) := by decide +kernel
theorem dL_law_708 : decode cL_law 708 = .ok (.iconst 4, 1) := by decide +kernel
theorem dL_law_709 : decode cL_law 709 = .ok (.iadd, 1) := by decide +kernel
theorem dL_law_710 : decode cL_law 710 = .ok (.iaload, 1) := by decide +kernel
theorem dL_law_714 : decode cL_law 714 = .ok (.pop, 1) := by decide +kernel
theorem dL_law_715 : decode cL_law 715 = .ok (.goto 980, 3) := by decide +kernel
theorem dL_law_718 : decode cL_law 718 = .ok (.aload_n 1, 1) := by decide +kernel
theorem dL_law_719 : decode cL_law 719 = .ok (.aload_n 0, 1) := by decide +kernel
theorem dL_law_720 : decode cL_law 720 = .ok (.iload_n 3, 1) := by decide +kernel
theorem dL_law_721 : decode cL_law 721 = .ok (.iconst 1, 1) := by decide +kernel
theorem dL_law_722 : decode cL_law 722 = .ok (.iadd, 1) := by decide +kernel
theorem dL_law_723 : decode cL_law 723 = .ok (.iaload, 1) := by decide +kernel
theorem dL_law_724 : decode cL_law 724 = .ok (.aload_n 0, 1) := by decide +kernel
theorem dL_law_725 : decode cL_law 725 = .ok (.iload_n 3, 1) := by decide +kernel
theorem dL_law_726 : decode cL_law 726 = .ok (.iconst 2, 1) := by decide +kernel
theorem dL_law_727 : decode cL_law 727 = .ok (.iadd, 1) := by decide +kernel
theorem dL_law_728 : decode cL_law 728 = .ok (.iaload, 1) := by decide +kernel
theorem dL_law_732 : decode cL_law 732 = .ok (.pop, 1) := by decide +kernel
theorem dL_law_733 : decode cL_law 733 = .ok (.aload_n 2, 1) := by decide +kernel
theorem dL_law_734 : decode cL_law 734 = .ok (.aload_n 0, 1) := by decide +kernel
theorem dL_law_735 : decode cL_law 735 = .ok (.iload_n 3, 1) := by decide +kernel
theorem dL_law_736 : decode cL_law 736 = .ok (.iconst 1, 1) := by decide +kernel
theorem dL_law_737 : decode cL_law 737 = .ok (.iadd, 1) := by decide +kernel
theorem dL_law_738 : decode cL_law 738 = .ok (.iaload, 1) := by decide +kernel
theorem dL_law_739 : decode cL_law 739 = .ok (.aload_n 0, 1) := by decide +kernel
theorem dL_law_740 : decode cL_law 740 = .ok (.iload_n 3, 1) := by decide +kernel
theorem dL_law_741 : decode cL_law 741 = .ok (.iconst 2, 1) := by decide +kernel
theorem dL_law_742 : decode cL_law 742 = .ok (.iadd, 1) := by decide +kernel
theorem dL_law_743 : decode cL_law 743 = .ok (.iaload, 1) := by decide +kernel
theorem dL_law_747 : decode cL_law 747 = .ok (.pop, 1) := by decide +kernel
theorem dL_law_748 : decode cL_law 748 = .ok (.goto 947, 3) := by decide +kernel
theorem dL_law_751 : decode cL_law 751 = .ok (.aload_n 1, 1) := by decide +kernel
theorem dL_law_752 : decode cL_law 752 = .ok (.aload_n 0, 1) := by decide +kernel
theorem dL_law_753 : decode cL_law 753 = .ok (.iload_n 3, 1) := by decide +kernel
theorem dL_law_754 : decode cL_law 754 = .ok (.iconst 1, 1) := by decide +kernel
theorem dL_law_755 : decode cL_law 755 = .ok (.iadd, 1) := by decide +kernel
theorem dL_law_756 : decode cL_law 756 = .ok (.iaload, 1) := by decide +kernel
theorem dL_law_757 : decode cL_law 757 = .ok (.aload_n 0, 1) := by decide +kernel
theorem dL_law_758 : decode cL_law 758 = .ok (.iload_n 3, 1) := by decide +kernel
theorem dL_law_759 : decode cL_law 759 = .ok (.iconst 2, 1) := by decide +kernel
theorem dL_law_760 : decode cL_law 760 = .ok (.iadd, 1) := by decide +kernel
theorem dL_law_761 : decode cL_law 761 = .ok (.iaload, 1) := by decide +kernel
theorem dL_law_762 : decode cL_law 762 = .ok (.aload_n 0, 1) := by decide +kernel
theorem dL_law_763 : decode cL_law 763 = .ok (.iload_n 3, 1) := by decide +kernel
theorem dL_law_764 : decode cL_law 764 = .ok (.iconst 3, 1) := by decide +kernel
theorem dL_law_765 : decode cL_law 765 = .ok (.iadd, 1) := by decide +kernel
theorem dL_law_766 : decode cL_law 766 = .ok (.iaload, 1) := by decide +kernel
theorem dL_law_770 : decode cL_law 770 = .ok (.pop, 1) := by decide +kernel
theorem dL_law_771 : decode cL_law 771 = .ok (.aload_n 2, 1) := by decide +kernel
theorem dL_law_772 : decode cL_law 772 = .ok (.aload_n 0, 1) := by decide +kernel
theorem dL_law_773 : decode cL_law 773 = .ok (.iload_n 3, 1) := by decide +kernel
theorem dL_law_774 : decode cL_law 774 = .ok (.iconst 1, 1) := by decide +kernel
theorem dL_law_775 : decode cL_law 775 = .ok (.iadd, 1) := by decide +kernel
theorem dL_law_776 : decode cL_law 776 = .ok (.iaload, 1) := by decide +kernel
theorem dL_law_777 : decode cL_law 777 = .ok (.aload_n 0, 1) := by decide +kernel
theorem dL_law_778 : decode cL_law 778 = .ok (.iload_n 3, 1) := by decide +kernel
theorem dL_law_779 : decode cL_law 779 = .ok (.iconst 2, 1) := by decide +kernel
theorem dL_law_780 : decode cL_law 780 = .ok (.iadd, 1) := by decide +kernel
theorem dL_law_781 : decode cL_law 781 = .ok (.iaload, 1) := by decide +kernel
theorem dL_law_782 : decode cL_law 782 = .ok (.aload_n 0, 1) := by decide +kernel
theorem dL_law_783 : decode cL_law 783 = .ok (.iload_n 3, 1) := by decide +kernel
theorem dL_law_784 : decode cL_law 784 = .ok (.iconst 3, 1) := by decide +kernel
theorem dL_law_785 : decode cL_law 785 = .ok (.iadd, 1) := by decide +kernel
theorem dL_law_786 : decode cL_law 786 = .ok (.iaload, 1) := by decide +kernel
theorem dL_law_790 : decode cL_law 790 = .ok (.pop, 1) := by decide +kernel
theorem dL_law_791 : decode cL_law 791 = .ok (.goto 904, 3) := by decide +kernel
theorem dL_law_794 : decode cL_law 794 = .ok (.aload_n 1, 1) := by decide +kernel
theorem dL_law_795 : decode cL_law 795 = .ok (.aload_n 0, 1) := by decide +kernel
theorem dL_law_796 : decode cL_law 796 = .ok (.iload_n 3, 1) := by decide +kernel
theorem dL_law_797 : decode cL_law 797 = .ok (.iconst 1, 1) := by decide +kernel
theorem dL_law_798 : decode cL_law 798 = .ok (.iadd, 1) := by decide +kernel
theorem dL_law_799 : decode cL_law 799 = .ok (.iaload, 1) := by decide +kernel
theorem dL_law_800 : decode cL_law 800 = .ok (.aload_n 0, 1) := by decide +kernel
theorem dL_law_801 : decode cL_law 801 = .ok (.iload_n 3, 1) := by decide +kernel
theorem dL_law_802 : decode cL_law 802 = .ok (.iconst 2, 1) := by decide +kernel
theorem dL_law_803 : decode cL_law 803 = .ok (.iadd, 1) := by decide +kernel
theorem dL_law_804 : decode cL_law 804 = .ok (.iaload, 1) := by decide +kernel
theorem dL_law_805 : decode cL_law 805 = .ok (.aload_n 0, 1) := by decide +kernel
theorem dL_law_806 : decode cL_law 806 = .ok (.iload_n 3, 1) := by decide +kernel
theorem dL_law_807 : decode cL_law 807 = .ok (.iconst 3, 1) := by decide +kernel
theorem dL_law_808 : decode cL_law 808 = .ok (.iadd, 1) := by decide +kernel
theorem dL_law_809 : decode cL_law 809 = .ok (.iaload, 1) := by decide +kernel
theorem dL_law_813 : decode cL_law 813 = .ok (.pop, 1) := by decide +kernel
theorem dL_law_814 : decode cL_law 814 = .ok (.aload_n 2, 1) := by decide +kernel
theorem dL_law_815 : decode cL_law 815 = .ok (.aload_n 0, 1) := by decide +kernel
theorem dL_law_816 : decode cL_law 816 = .ok (.iload_n 3, 1) := by decide +kernel
theorem dL_law_817 : decode cL_law 817 = .ok (.iconst 1, 1) := by decide +kernel
theorem dL_law_818 : decode cL_law 818 = .ok (.iadd, 1) := by decide +kernel
theorem dL_law_819 : decode cL_law 819 = .ok (.iaload, 1) := by decide +kernel
theorem dL_law_820 : decode cL_law 820 = .ok (.aload_n 0, 1) := by decide +kernel
theorem dL_law_821 : decode cL_law 821 = .ok (.iload_n 3, 1) := by decide +kernel
theorem dL_law_822 : decode cL_law 822 = .ok (.iconst 2, 1) := by decide +kernel
theorem dL_law_823 : decode cL_law 823 = .ok (.iadd, 1) := by decide +kernel
theorem dL_law_824 : decode cL_law 824 = .ok (.iaload, 1) := by decide +kernel
theorem dL_law_825 : decode cL_law 825 = .ok (.aload_n 0, 1) := by decide +kernel
theorem dL_law_826 : decode cL_law 826 = .ok (.iload_n 3, 1) := by decide +kernel
theorem dL_law_827 : decode cL_law 827 = .ok (.iconst 3, 1) := by decide +kernel
theorem dL_law_828 : decode cL_law 828 = .ok (.iadd, 1) := by decide +kernel
theorem dL_law_829 : decode cL_law 829 = .ok (.iaload, 1) := by decide +kernel
theorem dL_law_833 : decode cL_law 833 = .ok (.pop, 1) := by decide +kernel
theorem dL_law_834 : decode cL_law 834 = .ok (.goto 861, 3) := by decide +kernel
theorem dL_law_837 : decode cL_law 837 = .ok (.aload_n 1, 1) := by decide +kernel
theorem dL_law_838 : decode cL_law 838 = .ok (.aload_n 0, 1) := by decide +kernel
theorem dL_law_839 : decode cL_law 839 = .ok (.iload_n 3, 1) := by decide +kernel
theorem dL_law_840 : decode cL_law 840 = .ok (.iconst 1, 1) := by decide +kernel
theorem dL_law_841 : decode cL_law 841 = .ok (.iadd, 1) := by decide +kernel
theorem dL_law_842 : decode cL_law 842 = .ok (.iaload, 1) := by decide +kernel
theorem dL_law_843 : decode cL_law 843 = .ok (.aload_n 0, 1) := by decide +kernel
theorem dL_law_844 : decode cL_law 844 = .ok (.iload_n 3, 1) := by decide +kernel
theorem dL_law_845 : decode cL_law 845 = .ok (.iconst 2, 1) := by decide +kernel
theorem dL_law_846 : decode cL_law 846 = .ok (.iadd, 1) := by decide +kernel
theorem dL_law_847 : decode cL_law 847 = .ok (.iaload, 1) := by decide +kernel
theorem dL_law_851 : decode cL_law 851 = .ok (.pop, 1) := by decide +kernel
theorem dL_law_852 : decode cL_law 852 = .ok (.aload_n 2, 1) := by decide +kernel
theorem dL_law_853 : decode cL_law 853 = .ok (.aload_n 0, 1) := by decide +kernel
theorem dL_law_854 : decode cL_law 854 = .ok (.iload_n 3, 1) := by decide +kernel
theorem dL_law_855 : decode cL_law 855 = .ok (.iconst 1, 1) := by decide +kernel
theorem dL_law_856 : decode cL_law 856 = .ok (.iadd, 1) := by decide +kernel
theorem dL_law_857 : decode cL_law 857 = .ok (.iaload, 1) := by decide +kernel
theorem dL_law_858 : decode cL_law 858 = .ok (.aload_n 0, 1) := by decide +kernel
theorem dL_law_859 : decode cL_law 859 = .ok (.iload_n 3, 1) := by decide +kernel
theorem dL_law_860 : decode cL_law 860 = .ok (.iconst 2, 1) := by decide +kernel
theorem dL_law_861 : decode cL_law 861 = .ok (.iadd, 1) := by decide +kernel
theorem dL_law_862 : decode cL_law 862 = .ok (.iaload, 1) := by decide +kernel
theorem dL_law_866 : decode cL_law 866 = .ok (.pop, 1) := by decide +kernel
theorem dL_law_867 : decode cL_law 867 = .ok (.goto 828, 3) := by decide +kernel
theorem dL_law_870 : decode cL_law 870 = .ok (.aload_n 1, 1) := by decide +kernel
theorem dL_law_871 : decode cL_law 871 = .ok (.aload_n 0, 1) := by decide +kernel
theorem dL_law_872 : decode cL_law 872 = .ok (.iload_n 3, 1) := by decide +kernel
theorem dL_law_873 : decode cL_law 873 = .ok (.iconst 1, 1) := by decide +kernel
theorem dL_law_874 : decode cL_law 874 = .ok (.iadd, 1) := by decide +kernel
theorem dL_law_875 : decode cL_law 875 = .ok (.iaload, 1) := by decide +kernel
theorem dL_law_876 : decode cL_law 876 = .ok (.aload_n 0, 1) := by decide +kernel
theorem dL_law_877 : decode cL_law 877 = .ok (.iload_n 3, 1) := by decide +kernel
theorem dL_law_878 : decode cL_law 878 = .ok (.iconst 2, 1) := by decide +kernel
theorem dL_law_879 : decode cL_law 879 = .ok (.iadd, 1) := by decide +kernel
theorem dL_law_880 : decode cL_law 880 = .ok (.iaload, 1) := by decide +kernel
theorem dL_law_881 : decode cL_law 881 = .ok (.aload_n 0, 1) := by decide +kernel
theorem dL_law_882 : decode cL_law 882 = .ok (.iload_n 3, 1) := by decide +kernel
theorem dL_law_883 : decode cL_law 883 = .ok (.iconst 3, 1) := by decide +kernel
theorem dL_law_884 : decode cL_law 884 = .ok (.iadd, 1) := by decide +kernel
theorem dL_law_885 : decode cL_law 885 = .ok (.iaload, 1) := by decide +kernel
theorem dL_law_886 : decode cL_law 886 = .ok (.aload_n 0, 1) := by decide +kernel
theorem dL_law_887 : decode cL_law 887 = .ok (.iload_n 3, 1) := by decide +kernel
theorem dL_law_888 : decode cL_law 888 = .ok (.iconst 4, 1) := by decide +kernel
theorem dL_law_889 : decode cL_law 889 = .ok (.iadd, 1) := by decide +kernel
theorem dL_law_890 : decode cL_law 890 = .ok (.iaload, 1) := by decide +kernel
theorem dL_law_891 : decode cL_law 891 = .ok (.aload_n 0, 1) := by decide +kernel
theorem dL_law_892 : decode cL_law 892 = .ok (.iload_n 3, 1) := by decide +kernel
theorem dL_law_893 : decode cL_law 893 = .ok (.iconst 5, 1) := by decide +kernel
theorem dL_law_894 : decode cL_law 894 = .ok (.iadd, 1) := by decide +kernel
theorem dL_law_895 : decode cL_law 895 = .ok (.iaload, 1) := by decide +kernel
theorem dL_law_896 : decode cL_law 896 = .ok (.ifCond .eq 7, 3) := by decide +kernel
theorem dL_law_899 : decode cL_law 899 = .ok (.iconst 1, 1) := by decide +kernel
theorem dL_law_900 : decode cL_law 900 = .ok (.goto 4, 3) := by decide +kernel
theorem dL_law_903 : decode cL_law 903 = .ok (.iconst 0, 1) := by decide +kernel
theorem dL_law_907 : decode cL_law 907 = .ok (.pop, 1) := by decide +kernel
theorem dL_law_908 : decode cL_law 908 = .ok (.aload_n 2, 1) := by decide +kernel
theorem dL_law_909 : decode cL_law 909 = .ok (.aload_n 0, 1) := by decide +kernel
theorem dL_law_910 : decode cL_law 910 = .ok (.iload_n 3, 1) := by decide +kernel
theorem dL_law_911 : decode cL_law 911 = .ok (.iconst 1, 1) := by decide +kernel
theorem dL_law_912 : decode cL_law 912 = .ok (.iadd, 1) := by decide +kernel
theorem dL_law_913 : decode cL_law 913 = .ok (.iaload, 1) := by decide +kernel
theorem dL_law_914 : decode cL_law 914 = .ok (.aload_n 0, 1) := by decide +kernel
theorem dL_law_915 : decode cL_law 915 = .ok (.iload_n 3, 1) := by decide +kernel
theorem dL_law_916 : decode cL_law 916 = .ok (.iconst 2, 1) := by decide +kernel
theorem dL_law_917 : decode cL_law 917 = .ok (.iadd, 1) := by decide +kernel
theorem dL_law_918 : decode cL_law 918 = .ok (.iaload, 1) := by decide +kernel
theorem dL_law_919 : decode cL_law 919 = .ok (.aload_n 0, 1) := by decide +kernel
theorem dL_law_920 : decode cL_law 920 = .ok (.iload_n 3, 1) := by decide +kernel
theorem dL_law_921 : decode cL_law 921 = .ok (.iconst 3, 1) := by decide +kernel
theorem dL_law_922 : decode cL_law 922 = .ok (.iadd, 1) := by decide +kernel
theorem dL_law_923 : decode cL_law 923 = .ok (.iaload, 1) := by decide +kernel
theorem dL_law_924 : decode cL_law 924 = .ok (.aload_n 0, 1) := by decide +kernel
theorem dL_law_925 : decode cL_law 925 = .ok (.iload_n 3, 1) := by decide +kernel
theorem dL_law_926 : decode cL_law 926 = .ok (.iconst 4, 1) := by decide +kernel
theorem dL_law_927 : decode cL_law 927 = .ok (.iadd, 1) := by decide +kernel
theorem dL_law_928 : decode cL_law 928 = .ok (.iaload, 1) := by decide +kernel
theorem dL_law_929 : decode cL_law 929 = .ok (.aload_n 0, 1) := by decide +kernel
theorem dL_law_930 : decode cL_law 930 = .ok (.iload_n 3, 1) := by decide +kernel
theorem dL_law_931 : decode cL_law 931 = .ok (.iconst 5, 1) := by decide +kernel
theorem dL_law_932 : decode cL_law 932 = .ok (.iadd, 1) := by decide +kernel
theorem dL_law_933 : decode cL_law 933 = .ok (.iaload, 1) := by decide +kernel
theorem dL_law_934 : decode cL_law 934 = .ok (.ifCond .eq 7, 3) := by decide +kernel
theorem dL_law_937 : decode cL_law 937 = .ok (.iconst 1, 1) := by decide +kernel
theorem dL_law_938 : decode cL_law 938 = .ok (.goto 4, 3) := by decide +kernel
theorem dL_law_941 : decode cL_law 941 = .ok (.iconst 0, 1) := by decide +kernel
theorem dL_law_945 : decode cL_law 945 = .ok (.pop, 1) := by decide +kernel
theorem dL_law_946 : decode cL_law 946 = .ok (.goto 749, 3) := by decide +kernel
theorem dL_law_949 : decode cL_law 949 = .ok (.aload_n 1, 1) := by decide +kernel
theorem dL_law_950 : decode cL_law 950 = .ok (.aload_n 0, 1) := by decide +kernel
theorem dL_law_951 : decode cL_law 951 = .ok (.iload_n 3, 1) := by decide +kernel
theorem dL_law_952 : decode cL_law 952 = .ok (.iconst 1, 1) := by decide +kernel
theorem dL_law_953 : decode cL_law 953 = .ok (.iadd, 1) := by decide +kernel
theorem dL_law_954 : decode cL_law 954 = .ok (.iaload, 1) := by decide +kernel
theorem dL_law_955 : decode cL_law 955 = .ok (.aload_n 0, 1) := by decide +kernel
theorem dL_law_956 : decode cL_law 956 = .ok (.iload_n 3, 1) := by decide +kernel
theorem dL_law_957 : decode cL_law 957 = .ok (.iconst 2, 1) := by decide +kernel
theorem dL_law_958 : decode cL_law 958 = .ok (.iadd, 1) := by decide +kernel
theorem dL_law_959 : decode cL_law 959 = .ok (.iaload, 1) := by decide +kernel
theorem dL_law_960 : decode cL_law 960 = .ok (.aload_n 0, 1) := by decide +kernel
theorem dL_law_961 : decode cL_law 961 = .ok (.iload_n 3, 1) := by decide +kernel
theorem dL_law_962 : decode cL_law 962 = .ok (.iconst 3, 1) := by decide +kernel
theorem dL_law_963 : decode cL_law 963 = .ok (.iadd, 1) := by decide +kernel
theorem dL_law_964 : decode cL_law 964 = .ok (.iaload, 1) := by decide +kernel
theorem dL_law_965 : decode cL_law 965 = .ok (.aload_n 0, 1) := by decide +kernel
theorem dL_law_966 : decode cL_law 966 = .ok (.iload_n 3, 1) := by decide +kernel
theorem dL_law_967 : decode cL_law 967 = .ok (.iconst 4, 1) := by decide +kernel
theorem dL_law_968 : decode cL_law 968 = .ok (.iadd, 1) := by decide +kernel
theorem dL_law_969 : decode cL_law 969 = .ok (.iaload, 1) := by decide +kernel
theorem dL_law_970 : decode cL_law 970 = .ok (.ifCond .eq 7, 3) := by decide +kernel
theorem dL_law_973 : decode cL_law 973 = .ok (.iconst 1, 1) := by decide +kernel
theorem dL_law_974 : decode cL_law 974 = .ok (.goto 4, 3) := by decide +kernel
theorem dL_law_977 : decode cL_law 977 = .ok (.iconst 0, 1) := by decide +kernel
theorem dL_law_981 : decode cL_law 981 = .ok (.pop, 1) := by decide +kernel
theorem dL_law_982 : decode cL_law 982 = .ok (.aload_n 2, 1) := by decide +kernel
theorem dL_law_983 : decode cL_law 983 = .ok (.aload_n 0, 1) := by decide +kernel
theorem dL_law_984 : decode cL_law 984 = .ok (.iload_n 3, 1) := by decide +kernel
theorem dL_law_985 : decode cL_law 985 = .ok (.iconst 1, 1) := by decide +kernel
theorem dL_law_986 : decode cL_law 986 = .ok (.iadd, 1) := by decide +kernel
theorem dL_law_987 : decode cL_law 987 = .ok (.iaload, 1) := by decide +kernel
theorem dL_law_988 : decode cL_law 988 = .ok (.aload_n 0, 1) := by decide +kernel
theorem dL_law_989 : decode cL_law 989 = .ok (.iload_n 3, 1) := by decide +kernel
theorem dL_law_990 : decode cL_law 990 = .ok (.iconst 2, 1) := by decide +kernel
theorem dL_law_991 : decode cL_law 991 = .ok (.iadd, 1) := by decide +kernel
theorem dL_law_992 : decode cL_law 992 = .ok (.iaload, 1) := by decide +kernel
theorem dL_law_993 : decode cL_law 993 = .ok (.aload_n 0, 1) := by decide +kernel
theorem dL_law_994 : decode cL_law 994 = .ok (.iload_n 3, 1) := by decide +kernel
theorem dL_law_995 : decode cL_law 995 = .ok (.iconst 3, 1) := by decide +kernel
theorem dL_law_996 : decode cL_law 996 = .ok (.iadd, 1) := by decide +kernel
theorem dL_law_997 : decode cL_law 997 = .ok (.iaload, 1) := by decide +kernel
theorem dL_law_998 : decode cL_law 998 = .ok (.aload_n 0, 1) := by decide +kernel
theorem dL_law_999 : decode cL_law 999 = .ok (.iload_n 3, 1) := by decide +kernel
theorem dL_law_1000 : decode cL_law 1000 = .ok (.iconst 4, 1) := by decide +kernel
theorem dL_law_1001 : decode cL_law 1001 = .ok (.iadd, 1) := by decide +kernel
theorem dL_law_1002 : decode cL_law 1002 = .ok (.iaload, 1) := by decide +kernel
theorem dL_law_1003 : decode cL_law 1003 = .ok (.ifCond .eq 7, 3) := by decide +kernel
theorem dL_law_1006 : decode cL_law 1006 = .ok (.iconst 1, 1) := by decide +kernel
theorem dL_law_1007 : decode cL_law 1007 = .ok (.goto 4, 3) := by decide +kernel
theorem dL_law_1010 : decode cL_law 1010 = .ok (.iconst 0, 1) := by decide +kernel
theorem dL_law_1014 : decode cL_law 1014 = .ok (.pop, 1) := by decide +kernel
theorem dL_law_1015 : decode cL_law 1015 = .ok (.goto 680, 3) := by decide +kernel
theorem dL_law_1018 : decode cL_law 1018 = .ok (.aload_n 1, 1) := by decide +kernel
theorem dL_law_1019 : decode cL_law 1019 = .ok (.aload_n 0, 1) := by decide +kernel
theorem dL_law_1020 : decode cL_law 1020 = .ok (.iload_n 3, 1) := by decide +kernel
theorem dL_law_1021 : decode cL_law 1021 = .ok (.iconst 1, 1) := by decide +kernel
theorem dL_law_1022 : decode cL_law 1022 = .ok (.iadd, 1) := by decide +kernel
theorem dL_law_1023 : decode cL_law 1023 = .ok (.iaload, 1) := by decide +kernel
theorem dL_law_1027 : decode cL_law 1027 = .ok (.pop, 1) := by decide +kernel
theorem dL_law_1028 : decode cL_law 1028 = .ok (.aload_n 2, 1) := by decide +kernel
theorem dL_law_1029 : decode cL_law 1029 = .ok (.aload_n 0, 1) := by decide +kernel
theorem dL_law_1030 : decode cL_law 1030 = .ok (.iload_n 3, 1) := by decide +kernel
theorem dL_law_1031 : decode cL_law 1031 = .ok (.iconst 1, 1) := by decide +kernel
theorem dL_law_1032 : decode cL_law 1032 = .ok (.iadd, 1) := by decide +kernel
theorem dL_law_1033 : decode cL_law 1033 = .ok (.iaload, 1) := by decide +kernel
theorem dL_law_1037 : decode cL_law 1037 = .ok (.pop, 1) := by decide +kernel
theorem dL_law_1038 : decode cL_law 1038 = .ok (.goto 657, 3) := by decide +kernel
theorem dL_law_1041 : decode cL_law 1041 = .ok (.aload_n 1, 1) := by decide +kernel
theorem dL_law_1042 : decode cL_law 1042 = .ok (.aload_n 0, 1) := by decide +kernel
theorem dL_law_1043 : decode cL_law 1043 = .ok (.iload_n 3, 1) := by decide +kernel
theorem dL_law_1044 : decode cL_law 1044 = .ok (.iconst 1, 1) := by decide +kernel
theorem dL_law_1045 : decode cL_law 1045 = .ok (.iadd, 1) := by decide +kernel
theorem dL_law_1046 : decode cL_law 1046 = .ok (.iaload, 1) := by decide +kernel
theorem dL_law_1047 : decode cL_law 1047 = .ok (.aload_n 0, 1) := by decide +kernel
theorem dL_law_1048 : decode cL_law 1048 = .ok (.iload_n 3, 1) := by decide +kernel
theorem dL_law_1049 : decode cL_law 1049 = .ok (.iconst 2, 1) := by decide +kernel
theorem dL_law_1050 : decode cL_law 1050 = .ok (.iadd, 1) := by decide +kernel
theorem dL_law_1051 : decode cL_law 1051 = .ok (.iaload, 1) := by decide +kernel
theorem dL_law_1055 : decode cL_law 1055 = .ok (.pop, 1) := by decide +kernel
theorem dL_law_1056 : decode cL_law 1056 = .ok (.aload_n 2, 1) := by decide +kernel
theorem dL_law_1057 : decode cL_law 1057 = .ok (.aload_n 0, 1) := by decide +kernel
theorem dL_law_1058 : decode cL_law 1058 = .ok (.iload_n 3, 1) := by decide +kernel
theorem dL_law_1059 : decode cL_law 1059 = .ok (.iconst 1, 1) := by decide +kernel
theorem dL_law_1060 : decode cL_law 1060 = .ok (.iadd, 1) := by decide +kernel
theorem dL_law_1061 : decode cL_law 1061 = .ok (.iaload, 1) := by decide +kernel
theorem dL_law_1062 : decode cL_law 1062 = .ok (.aload_n 0, 1) := by decide +kernel
theorem dL_law_1063 : decode cL_law 1063 = .ok (.iload_n 3, 1) := by decide +kernel
theorem dL_law_1064 : decode cL_law 1064 = .ok (.iconst 2, 1) := by decide +kernel
theorem dL_law_1065 : decode cL_law 1065 = .ok (.iadd, 1) := by decide +kernel
theorem dL_law_1066 : decode cL_law 1066 = .ok (.iaload, 1) := by decide +kernel
theorem dL_law_1070 : decode cL_law 1070 = .ok (.pop, 1) := by decide +kernel
theorem dL_law_1071 : decode cL_law 1071 = .ok (.goto 624, 3) := by decide +kernel
theorem dL_law_1074 : decode cL_law 1074 = .ok (.aload_n 1, 1) := by decide +kernel
theorem dL_law_1075 : decode cL_law 1075 = .ok (.aload_n 0, 1) := by decide +kernel
theorem dL_law_1076 : decode cL_law 1076 = .ok (.iload_n 3, 1) := by decide +kernel
theorem dL_law_1077 : decode cL_law 1077 = .ok (.iconst 1, 1) := by decide +kernel
theorem dL_law_1078 : decode cL_law 1078 = .ok (.iadd, 1) := by decide +kernel
theorem dL_law_1079 : decode cL_law 1079 = .ok (.iaload, 1) := by decide +kernel
theorem dL_law_1083 : decode cL_law 1083 = .ok (.pop, 1) := by decide +kernel
theorem dL_law_1084 : decode cL_law 1084 = .ok (.aload_n 2, 1) := by decide +kernel
theorem dL_law_1085 : decode cL_law 1085 = .ok (.aload_n 0, 1) := by decide +kernel
theorem dL_law_1086 : decode cL_law 1086 = .ok (.iload_n 3, 1) := by decide +kernel
theorem dL_law_1087 : decode cL_law 1087 = .ok (.iconst 1, 1) := by decide +kernel
theorem dL_law_1088 : decode cL_law 1088 = .ok (.iadd, 1) := by decide +kernel
theorem dL_law_1089 : decode cL_law 1089 = .ok (.iaload, 1) := by decide +kernel
theorem dL_law_1093 : decode cL_law 1093 = .ok (.pop, 1) := by decide +kernel
theorem dL_law_1094 : decode cL_law 1094 = .ok (.goto 601, 3) := by decide +kernel
theorem dL_law_1097 : decode cL_law 1097 = .ok (.aload_n 1, 1) := by decide +kernel
theorem dL_law_1098 : decode cL_law 1098 = .ok (.aload_n 0, 1) := by decide +kernel
theorem dL_law_1099 : decode cL_law 1099 = .ok (.iload_n 3, 1) := by decide +kernel
theorem dL_law_1100 : decode cL_law 1100 = .ok (.iconst 1, 1) := by decide +kernel
theorem dL_law_1101 : decode cL_law 1101 = .ok (.iadd, 1) := by decide +kernel
theorem dL_law_1102 : decode cL_law 1102 = .ok (.iaload, 1) := by decide +kernel
theorem dL_law_1103 : decode cL_law 1103 = .ok (.aload_n 0, 1) := by decide +kernel
theorem dL_law_1104 : decode cL_law 1104 = .ok (.iload_n 3, 1) := by decide +kernel
theorem dL_law_1105 : decode cL_law 1105 = .ok (.iconst 2, 1) := by decide +kernel
theorem dL_law_1106 : decode cL_law 1106 = .ok (.iadd, 1) := by decide +kernel
theorem dL_law_1107 : decode cL_law 1107 = .ok (.iaload, 1) := by decide +kernel
theorem dL_law_1108 : decode cL_law 1108 = .ok (.aload_n 0, 1) := by decide +kernel
theorem dL_law_1109 : decode cL_law 1109 = .ok (.iload_n 3, 1) := by decide +kernel
theorem dL_law_1110 : decode cL_law 1110 = .ok (.iconst 3, 1) := by decide +kernel
theorem dL_law_1111 : decode cL_law 1111 = .ok (.iadd, 1) := by decide +kernel
theorem dL_law_1112 : decode cL_law 1112 = .ok (.iaload, 1) := by decide +kernel
theorem dL_law_1116 : decode cL_law 1116 = .ok (.pop, 1) := by decide +kernel
theorem dL_law_1117 : decode cL_law 1117 = .ok (.aload_n 2, 1) := by decide +kernel
theorem dL_law_1118 : decode cL_law 1118 = .ok (.aload_n 0, 1) := by decide +kernel
theorem dL_law_1119 : decode cL_law 1119 = .ok (.iload_n 3, 1) := by decide +kernel
theorem dL_law_1120 : decode cL_law 1120 = .ok (.iconst 1, 1) := by decide +kernel
theorem dL_law_1121 : decode cL_law 1121 = .ok (.iadd, 1) := by decide +kernel
theorem dL_law_1122 : decode cL_law 1122 = .ok (.iaload, 1) := by decide +kernel
theorem dL_law_1123 : decode cL_law 1123 = .ok (.aload_n 0, 1) := by decide +kernel
theorem dL_law_1124 : decode cL_law 1124 = .ok (.iload_n 3, 1) := by decide +kernel
theorem dL_law_1125 : decode cL_law 1125 = .ok (.iconst 2, 1) := by decide +kernel
theorem dL_law_1126 : decode cL_law 1126 = .ok (.iadd, 1) := by decide +kernel
theorem dL_law_1127 : decode cL_law 1127 = .ok (.iaload, 1) := by decide +kernel
theorem dL_law_1128 : decode cL_law 1128 = .ok (.aload_n 0, 1) := by decide +kernel
theorem dL_law_1129 : decode cL_law 1129 = .ok (.iload_n 3, 1) := by decide +kernel
theorem dL_law_1130 : decode cL_law 1130 = .ok (.iconst 3, 1) := by decide +kernel
theorem dL_law_1131 : decode cL_law 1131 = .ok (.iadd, 1) := by decide +kernel
theorem dL_law_1132 : decode cL_law 1132 = .ok (.iaload, 1) := by decide +kernel
theorem dL_law_1136 : decode cL_law 1136 = .ok (.pop, 1) := by decide +kernel
theorem dL_law_1137 : decode cL_law 1137 = .ok (.goto 558, 3) := by decide +kernel
theorem dL_law_1140 : decode cL_law 1140 = .ok (.aload_n 1, 1) := by decide +kernel
theorem dL_law_1141 : decode cL_law 1141 = .ok (.aload_n 0, 1) := by decide +kernel
theorem dL_law_1142 : decode cL_law 1142 = .ok (.iload_n 3, 1) := by decide +kernel
theorem dL_law_1143 : decode cL_law 1143 = .ok (.iconst 1, 1) := by decide +kernel
theorem dL_law_1144 : decode cL_law 1144 = .ok (.iadd, 1) := by decide +kernel
theorem dL_law_1145 : decode cL_law 1145 = .ok (.iaload, 1) := by decide +kernel
theorem dL_law_1146 : decode cL_law 1146 = .ok (.aload_n 0, 1) := by decide +kernel
theorem dL_law_1147 : decode cL_law 1147 = .ok (.iload_n 3, 1) := by decide +kernel
theorem dL_law_1148 : decode cL_law 1148 = .ok (.iconst 2, 1) := by decide +kernel
theorem dL_law_1149 : decode cL_law 1149 = .ok (.iadd, 1) := by decide +kernel
theorem dL_law_1150 : decode cL_law 1150 = .ok (.iaload, 1) := by decide +kernel
theorem dL_law_1151 : decode cL_law 1151 = .ok (.aload_n 0, 1) := by decide +kernel
theorem dL_law_1152 : decode cL_law 1152 = .ok (.iload_n 3, 1) := by decide +kernel
theorem dL_law_1153 : decode cL_law 1153 = .ok (.iconst 3, 1) := by decide +kernel
theorem dL_law_1154 : decode cL_law 1154 = .ok (.iadd, 1) := by decide +kernel
theorem dL_law_1155 : decode cL_law 1155 = .ok (.iaload, 1) := by decide +kernel
theorem dL_law_1159 : decode cL_law 1159 = .ok (.pop, 1) := by decide +kernel
theorem dL_law_1160 : decode cL_law 1160 = .ok (.aload_n 2, 1) := by decide +kernel
theorem dL_law_1161 : decode cL_law 1161 = .ok (.aload_n 0, 1) := by decide +kernel
theorem dL_law_1162 : decode cL_law 1162 = .ok (.iload_n 3, 1) := by decide +kernel
theorem dL_law_1163 : decode cL_law 1163 = .ok (.iconst 1, 1) := by decide +kernel
theorem dL_law_1164 : decode cL_law 1164 = .ok (.iadd, 1) := by decide +kernel
theorem dL_law_1165 : decode cL_law 1165 = .ok (.iaload, 1) := by decide +kernel
theorem dL_law_1166 : decode cL_law 1166 = .ok (.aload_n 0, 1) := by decide +kernel
theorem dL_law_1167 : decode cL_law 1167 = .ok (.iload_n 3, 1) := by decide +kernel
theorem dL_law_1168 : decode cL_law 1168 = .ok (.iconst 2, 1) := by decide +kernel
theorem dL_law_1169 : decode cL_law 1169 = .ok (.iadd, 1) := by decide +kernel
theorem dL_law_1170 : decode cL_law 1170 = .ok (.iaload, 1) := by decide +kernel
theorem dL_law_1171 : decode cL_law 1171 = .ok (.aload_n 0, 1) := by decide +kernel
theorem dL_law_1172 : decode cL_law 1172 = .ok (.iload_n 3, 1) := by decide +kernel
theorem dL_law_1173 : decode cL_law 1173 = .ok (.iconst 3, 1) := by decide +kernel
theorem dL_law_1174 : decode cL_law 1174 = .ok (.iadd, 1) := by decide +kernel
theorem dL_law_1175 : decode cL_law 1175 = .ok (.iaload, 1) := by decide +kernel
theorem dL_law_1179 : decode cL_law 1179 = .ok (.pop, 1) := by decide +kernel
theorem dL_law_1180 : decode cL_law 1180 = .ok (.goto 515, 3) := by decide +kernel
theorem dL_law_1183 : decode cL_law 1183 = .ok (.aload_n 1, 1) := by decide +kernel
theorem dL_law_1184 : decode cL_law 1184 = .ok (.aload_n 0, 1) := by decide +kernel
theorem dL_law_1185 : decode cL_law 1185 = .ok (.iload_n 3, 1) := by decide +kernel
theorem dL_law_1186 : decode cL_law 1186 = .ok (.iconst 1, 1) := by decide +kernel
theorem dL_law_1187 : decode cL_law 1187 = .ok (.iadd, 1) := by decide +kernel
theorem dL_law_1188 : decode cL_law 1188 = .ok (.iaload, 1) := by decide +kernel
theorem dL_law_1189 : decode cL_law 1189 = .ok (.aload_n 0, 1) := by decide +kernel
theorem dL_law_1190 : decode cL_law 1190 = .ok (.iload_n 3, 1) := by decide +kernel
theorem dL_law_1191 : decode cL_law 1191 = .ok (.iconst 2, 1) := by decide +kernel
theorem dL_law_1192 : decode cL_law 1192 = .ok (.iadd, 1) := by decide +kernel
theorem dL_law_1193 : decode cL_law 1193 = .ok (.iaload, 1) := by decide +kernel
theorem dL_law_1194 : decode cL_law 1194 = .ok (.aload_n 0, 1) := by decide +kernel
theorem dL_law_1195 : decode cL_law 1195 = .ok (.iload_n 3, 1) := by decide +kernel
theorem dL_law_1196 : decode cL_law 1196 = .ok (.iconst 3, 1) := by decide +kernel
theorem dL_law_1197 : decode cL_law 1197 = .ok (.iadd, 1) := by decide +kernel
theorem dL_law_1198 : decode cL_law 1198 = .ok (.iaload, 1) := by decide +kernel
theorem dL_law_1202 : decode cL_law 1202 = .ok (.pop, 1) := by decide +kernel
theorem dL_law_1203 : decode cL_law 1203 = .ok (.aload_n 2, 1) := by decide +kernel
theorem dL_law_1204 : decode cL_law 1204 = .ok (.aload_n 0, 1) := by decide +kernel
theorem dL_law_1205 : decode cL_law 1205 = .ok (.iload_n 3, 1) := by decide +kernel
theorem dL_law_1206 : decode cL_law 1206 = .ok (.iconst 1, 1) := by decide +kernel
theorem dL_law_1207 : decode cL_law 1207 = .ok (.iadd, 1) := by decide +kernel
theorem dL_law_1208 : decode cL_law 1208 = .ok (.iaload, 1) := by decide +kernel
theorem dL_law_1209 : decode cL_law 1209 = .ok (.aload_n 0, 1) := by decide +kernel
theorem dL_law_1210 : decode cL_law 1210 = .ok (.iload_n 3, 1) := by decide +kernel
theorem dL_law_1211 : decode cL_law 1211 = .ok (.iconst 2, 1) := by decide +kernel
theorem dL_law_1212 : decode cL_law 1212 = .ok (.iadd, 1) := by decide +kernel
theorem dL_law_1213 : decode cL_law 1213 = .ok (.iaload, 1) := by decide +kernel
theorem dL_law_1214 : decode cL_law 1214 = .ok (.aload_n 0, 1) := by decide +kernel
theorem dL_law_1215 : decode cL_law 1215 = .ok (.iload_n 3, 1) := by decide +kernel
theorem dL_law_1216 : decode cL_law 1216 = .ok (.iconst 3, 1) := by decide +kernel
theorem dL_law_1217 : decode cL_law 1217 = .ok (.iadd, 1) := by decide +kernel
theorem dL_law_1218 : decode cL_law 1218 = .ok (.iaload, 1) := by decide +kernel
theorem dL_law_1222 : decode cL_law 1222 = .ok (.pop, 1) := by decide +kernel
theorem dL_law_1223 : decode cL_law 1223 = .ok (.goto 472, 3) := by decide +kernel
theorem dL_law_1226 : decode cL_law 1226 = .ok (.aload_n 1, 1) := by decide +kernel
theorem dL_law_1227 : decode cL_law 1227 = .ok (.aload_n 0, 1) := by decide +kernel
theorem dL_law_1228 : decode cL_law 1228 = .ok (.iload_n 3, 1) := by decide +kernel
theorem dL_law_1229 : decode cL_law 1229 = .ok (.iconst 1, 1) := by decide +kernel
theorem dL_law_1230 : decode cL_law 1230 = .ok (.iadd, 1) := by decide +kernel
theorem dL_law_1231 : decode cL_law 1231 = .ok (.iaload, 1) := by decide +kernel
theorem dL_law_1235 : decode cL_law 1235 = .ok (.pop, 1) := by decide +kernel
theorem dL_law_1236 : decode cL_law 1236 = .ok (.aload_n 2, 1) := by decide +kernel
theorem dL_law_1237 : decode cL_law 1237 = .ok (.aload_n 0, 1) := by decide +kernel
theorem dL_law_1238 : decode cL_law 1238 = .ok (.iload_n 3, 1) := by decide +kernel
theorem dL_law_1239 : decode cL_law 1239 = .ok (.iconst 1, 1) := by decide +kernel
theorem dL_law_1240 : decode cL_law 1240 = .ok (.iadd, 1) := by decide +kernel
theorem dL_law_1241 : decode cL_law 1241 = .ok (.iaload, 1) := by decide +kernel
theorem dL_law_1245 : decode cL_law 1245 = .ok (.pop, 1) := by decide +kernel
theorem dL_law_1246 : decode cL_law 1246 = .ok (.goto 449, 3) := by decide +kernel
theorem dL_law_1249 : decode cL_law 1249 = .ok (.aload_n 1, 1) := by decide +kernel
theorem dL_law_1250 : decode cL_law 1250 = .ok (.aload_n 0, 1) := by decide +kernel
theorem dL_law_1251 : decode cL_law 1251 = .ok (.iload_n 3, 1) := by decide +kernel
theorem dL_law_1252 : decode cL_law 1252 = .ok (.iconst 1, 1) := by decide +kernel
theorem dL_law_1253 : decode cL_law 1253 = .ok (.iadd, 1) := by decide +kernel
theorem dL_law_1254 : decode cL_law 1254 = .ok (.iaload, 1) := by decide +kernel
theorem dL_law_1255 : decode cL_law 1255 = .ok (.aload_n 0, 1) := by decide +kernel
theorem dL_law_1256 : decode cL_law 1256 = .ok (.iload_n 3, 1) := by decide +kernel
theorem dL_law_1257 : decode cL_law 1257 = .ok (.iconst 2, 1) := by decide +kernel
theorem dL_law_1258 : decode cL_law 1258 = .ok (.iadd, 1) := by decide +kernel
theorem dL_law_1259 : decode cL_law 1259 = .ok (.iaload, 1) := by decide +kernel
theorem dL_law_1260 : decode cL_law 1260 = .ok (.aload_n 0, 1) := by decide +kernel
theorem dL_law_1261 : decode cL_law 1261 = .ok (.iload_n 3, 1) := by decide +kernel
theorem dL_law_1262 : decode cL_law 1262 = .ok (.iconst 3, 1) := by decide +kernel
theorem dL_law_1263 : decode cL_law 1263 = .ok (.iadd, 1) := by decide +kernel
theorem dL_law_1264 : decode cL_law 1264 = .ok (.iaload, 1) := by decide +kernel
theorem dL_law_1268 : decode cL_law 1268 = .ok (.pop2, 1) := by decide +kernel
theorem dL_law_1269 : decode cL_law 1269 = .ok (.aload_n 2, 1) := by decide +kernel
theorem dL_law_1270 : decode cL_law 1270 = .ok (.aload_n 0, 1) := by decide +kernel
theorem dL_law_1271 : decode cL_law 1271 = .ok (.iload_n 3, 1) := by decide +kernel
theorem dL_law_1272 : decode cL_law 1272 = .ok (.iconst 1, 1) := by decide +kernel
theorem dL_law_1273 : decode cL_law 1273 = .ok (.iadd, 1) := by decide +kernel
theorem dL_law_1274 : decode cL_law 1274 = .ok (.iaload, 1) := by decide +kernel
theorem dL_law_1275 : decode cL_law 1275 = .ok (.aload_n 0, 1) := by decide +kernel
theorem dL_law_1276 : decode cL_law 1276 = .ok (.iload_n 3, 1) := by decide +kernel
theorem dL_law_1277 : decode cL_law 1277 = .ok (.iconst 2, 1) := by decide +kernel
theorem dL_law_1278 : decode cL_law 1278 = .ok (.iadd, 1) := by decide +kernel
theorem dL_law_1279 : decode cL_law 1279 = .ok (.iaload, 1) := by decide +kernel
theorem dL_law_1280 : decode cL_law 1280 = .ok (.aload_n 0, 1) := by decide +kernel
theorem dL_law_1281 : decode cL_law 1281 = .ok (.iload_n 3, 1) := by decide +kernel
theorem dL_law_1282 : decode cL_law 1282 = .ok (.iconst 3, 1) := by decide +kernel
theorem dL_law_1283 : decode cL_law 1283 = .ok (.iadd, 1) := by decide +kernel
theorem dL_law_1284 : decode cL_law 1284 = .ok (.iaload, 1) := by decide +kernel
theorem dL_law_1288 : decode cL_law 1288 = .ok (.pop2, 1) := by decide +kernel
theorem dL_law_1289 : decode cL_law 1289 = .ok (.goto 406, 3) := by decide +kernel
theorem dL_law_1292 : decode cL_law 1292 = .ok (.aload_n 1, 1) := by decide +kernel
theorem dL_law_1293 : decode cL_law 1293 = .ok (.aload_n 0, 1) := by decide +kernel
theorem dL_law_1294 : decode cL_law 1294 = .ok (.iload_n 3, 1) := by decide +kernel
theorem dL_law_1295 : decode cL_law 1295 = .ok (.iconst 1, 1) := by decide +kernel
theorem dL_law_1296 : decode cL_law 1296 = .ok (.iadd, 1) := by decide +kernel
theorem dL_law_1297 : decode cL_law 1297 = .ok (.iaload, 1) := by decide +kernel
theorem dL_law_1298 : decode cL_law 1298 = .ok (.aload_n 0, 1) := by decide +kernel
theorem dL_law_1299 : decode cL_law 1299 = .ok (.iload_n 3, 1) := by decide +kernel
theorem dL_law_1300 : decode cL_law 1300 = .ok (.iconst 2, 1) := by decide +kernel
theorem dL_law_1301 : decode cL_law 1301 = .ok (.iadd, 1) := by decide +kernel
theorem dL_law_1302 : decode cL_law 1302 = .ok (.iaload, 1) := by decide +kernel
theorem dL_law_1303 : decode cL_law 1303 = .ok (.aload_n 0, 1) := by decide +kernel
theorem dL_law_1304 : decode cL_law 1304 = .ok (.iload_n 3, 1) := by decide +kernel
theorem dL_law_1305 : decode cL_law 1305 = .ok (.iconst 3, 1) := by decide +kernel
theorem dL_law_1306 : decode cL_law 1306 = .ok (.iadd, 1) := by decide +kernel
theorem dL_law_1307 : decode cL_law 1307 = .ok (.iaload, 1) := by decide +kernel
theorem dL_law_1311 : decode cL_law 1311 = .ok (.pop, 1) := by decide +kernel
theorem dL_law_1312 : decode cL_law 1312 = .ok (.aload_n 2, 1) := by decide +kernel
theorem dL_law_1313 : decode cL_law 1313 = .ok (.aload_n 0, 1) := by decide +kernel
theorem dL_law_1314 : decode cL_law 1314 = .ok (.iload_n 3, 1) := by decide +kernel
theorem dL_law_1315 : decode cL_law 1315 = .ok (.iconst 1, 1) := by decide +kernel
theorem dL_law_1316 : decode cL_law 1316 = .ok (.iadd, 1) := by decide +kernel
theorem dL_law_1317 : decode cL_law 1317 = .ok (.iaload, 1) := by decide +kernel
theorem dL_law_1318 : decode cL_law 1318 = .ok (.aload_n 0, 1) := by decide +kernel
theorem dL_law_1319 : decode cL_law 1319 = .ok (.iload_n 3, 1) := by decide +kernel
theorem dL_law_1320 : decode cL_law 1320 = .ok (.iconst 2, 1) := by decide +kernel
theorem dL_law_1321 : decode cL_law 1321 = .ok (.iadd, 1) := by decide +kernel
theorem dL_law_1322 : decode cL_law 1322 = .ok (.iaload, 1) := by decide +kernel
theorem dL_law_1323 : decode cL_law 1323 = .ok (.aload_n 0, 1) := by decide +kernel
theorem dL_law_1324 : decode cL_law 1324 = .ok (.iload_n 3, 1) := by decide +kernel
theorem dL_law_1325 : decode cL_law 1325 = .ok (.iconst 3, 1) := by decide +kernel
theorem dL_law_1326 : decode cL_law 1326 = .ok (.iadd, 1) := by decide +kernel
theorem dL_law_1327 : decode cL_law 1327 = .ok (.iaload, 1) := by decide +kernel
theorem dL_law_1331 : decode cL_law 1331 = .ok (.pop, 1) := by decide +kernel
theorem dL_law_1332 : decode cL_law 1332 = .ok (.goto 363, 3) := by decide +kernel
theorem dL_law_1335 : decode cL_law 1335 = .ok (.aload_n 1, 1) := by decide +kernel
theorem dL_law_1336 : decode cL_law 1336 = .ok (.aload_n 0, 1) := by decide +kernel
theorem dL_law_1337 : decode cL_law 1337 = .ok (.iload_n 3, 1) := by decide +kernel
theorem dL_law_1338 : decode cL_law 1338 = .ok (.iconst 1, 1) := by decide +kernel
theorem dL_law_1339 : decode cL_law 1339 = .ok (.iadd, 1) := by decide +kernel
theorem dL_law_1340 : decode cL_law 1340 = .ok (.iaload, 1) := by decide +kernel
theorem dL_law_1341 : decode cL_law 1341 = .ok (.aload_n 0, 1) := by decide +kernel
theorem dL_law_1342 : decode cL_law 1342 = .ok (.iload_n 3, 1) := by decide +kernel
theorem dL_law_1343 : decode cL_law 1343 = .ok (.iconst 2, 1) := by decide +kernel
theorem dL_law_1344 : decode cL_law 1344 = .ok (.iadd, 1) := by decide +kernel
theorem dL_law_1345 : decode cL_law 1345 = .ok (.iaload, 1) := by decide +kernel
theorem dL_law_1346 : decode cL_law 1346 = .ok (.aload_n 0, 1) := by decide +kernel
theorem dL_law_1347 : decode cL_law 1347 = .ok (.iload_n 3, 1) := by decide +kernel
theorem dL_law_1348 : decode cL_law 1348 = .ok (.iconst 3, 1) := by decide +kernel
theorem dL_law_1349 : decode cL_law 1349 = .ok (.iadd, 1) := by decide +kernel
theorem dL_law_1350 : decode cL_law 1350 = .ok (.iaload, 1) := by decide +kernel
theorem dL_law_1354 : decode cL_law 1354 = .ok (.pop, 1) := by decide +kernel
theorem dL_law_1355 : decode cL_law 1355 = .ok (.aload_n 2, 1) := by decide +kernel
theorem dL_law_1356 : decode cL_law 1356 = .ok (.aload_n 0, 1) := by decide +kernel
theorem dL_law_1357 : decode cL_law 1357 = .ok (.iload_n 3, 1) := by decide +kernel
theorem dL_law_1358 : decode cL_law 1358 = .ok (.iconst 1, 1) := by decide +kernel
theorem dL_law_1359 : decode cL_law 1359 = .ok (.iadd, 1) := by decide +kernel
theorem dL_law_1360 : decode cL_law 1360 = .ok (.iaload, 1) := by decide +kernel
theorem dL_law_1361 : decode cL_law 1361 = .ok (.aload_n 0, 1) := by decide +kernel
theorem dL_law_1362 : decode cL_law 1362 = .ok (.iload_n 3, 1) := by decide +kernel
theorem dL_law_1363 : decode cL_law 1363 = .ok (.iconst 2, 1) := by decide +kernel
theorem dL_law_1364 : decode cL_law 1364 = .ok (.iadd, 1) := by decide +kernel
theorem dL_law_1365 : decode cL_law 1365 = .ok (.iaload, 1) := by decide +kernel
theorem dL_law_1366 : decode cL_law 1366 = .ok (.aload_n 0, 1) := by decide +kernel
theorem dL_law_1367 : decode cL_law 1367 = .ok (.iload_n 3, 1) := by decide +kernel
theorem dL_law_1368 : decode cL_law 1368 = .ok (.iconst 3, 1) := by decide +kernel
theorem dL_law_1369 : decode cL_law 1369 = .ok (.iadd, 1) := by decide +kernel
theorem dL_law_1370 : decode cL_law 1370 = .ok (.iaload, 1) := by decide +kernel
theorem dL_law_1374 : decode cL_law 1374 = .ok (.pop, 1) := by decide +kernel
theorem dL_law_1375 : decode cL_law 1375 = .ok (.goto 320, 3) := by decide +kernel
theorem dL_law_1378 : decode cL_law 1378 = .ok (.aload_n 1, 1) := by decide +kernel
theorem dL_law_1379 : decode cL_law 1379 = .ok (.aload_n 0, 1) := by decide +kernel
theorem dL_law_1380 : decode cL_law 1380 = .ok (.iload_n 3, 1) := by decide +kernel
theorem dL_law_1381 : decode cL_law 1381 = .ok (.iconst 1, 1) := by decide +kernel
theorem dL_law_1382 : decode cL_law 1382 = .ok (.iadd, 1) := by decide +kernel
theorem dL_law_1383 : decode cL_law 1383 = .ok (.iaload, 1) := by decide +kernel
theorem dL_law_1384 : decode cL_law 1384 = .ok (.aload_n 0, 1) := by decide +kernel
theorem dL_law_1385 : decode cL_law 1385 = .ok (.iload_n 3, 1) := by decide +kernel
theorem dL_law_1386 : decode cL_law 1386 = .ok (.iconst 2, 1) := by decide +kernel
theorem dL_law_1387 : decode cL_law 1387 = .ok (.iadd, 1) := by decide +kernel
theorem dL_law_1388 : decode cL_law 1388 = .ok (.iaload, 1) := by decide +kernel
theorem dL_law_1389 : decode cL_law 1389 = .ok (.aload_n 0, 1) := by decide +kernel
theorem dL_law_1390 : decode cL_law 1390 = .ok (.iload_n 3, 1) := by decide +kernel
theorem dL_law_1391 : decode cL_law 1391 = .ok (.iconst 3, 1) := by decide +kernel
theorem dL_law_1392 : decode cL_law 1392 = .ok (.iadd, 1) := by decide +kernel
theorem dL_law_1393 : decode cL_law 1393 = .ok (.iaload, 1) := by decide +kernel
theorem dL_law_1397 : decode cL_law 1397 = .ok (.pop2, 1) := by decide +kernel
theorem dL_law_1398 : decode cL_law 1398 = .ok (.aload_n 2, 1) := by decide +kernel
theorem dL_law_1399 : decode cL_law 1399 = .ok (.aload_n 0, 1) := by decide +kernel
theorem dL_law_1400 : decode cL_law 1400 = .ok (.iload_n 3, 1) := by decide +kernel
theorem dL_law_1401 : decode cL_law 1401 = .ok (.iconst 1, 1) := by decide +kernel
theorem dL_law_1402 : decode cL_law 1402 = .ok (.iadd, 1) := by decide +kernel
theorem dL_law_1403 : decode cL_law 1403 = .ok (.iaload, 1) := by decide +kernel
theorem dL_law_1404 : decode cL_law 1404 = .ok (.aload_n 0, 1) := by decide +kernel
theorem dL_law_1405 : decode cL_law 1405 = .ok (.iload_n 3, 1) := by decide +kernel
theorem dL_law_1406 : decode cL_law 1406 = .ok (.iconst 2, 1) := by decide +kernel
theorem dL_law_1407 : decode cL_law 1407 = .ok (.iadd, 1) := by decide +kernel
theorem dL_law_1408 : decode cL_law 1408 = .ok (.iaload, 1) := by decide +kernel
theorem dL_law_1409 : decode cL_law 1409 = .ok (.aload_n 0, 1) := by decide +kernel
theorem dL_law_1410 : decode cL_law 1410 = .ok (.iload_n 3, 1) := by decide +kernel
theorem dL_law_1411 : decode cL_law 1411 = .ok (.iconst 3, 1) := by decide +kernel
theorem dL_law_1412 : decode cL_law 1412 = .ok (.iadd, 1) := by decide +kernel
theorem dL_law_1413 : decode cL_law 1413 = .ok (.iaload, 1) := by decide +kernel
theorem dL_law_1417 : decode cL_law 1417 = .ok (.pop2, 1) := by decide +kernel
theorem dL_law_1418 : decode cL_law 1418 = .ok (.goto 277, 3) := by decide +kernel
theorem dL_law_1421 : decode cL_law 1421 = .ok (.aload_n 1, 1) := by decide +kernel
theorem dL_law_1422 : decode cL_law 1422 = .ok (.aload_n 0, 1) := by decide +kernel
theorem dL_law_1423 : decode cL_law 1423 = .ok (.iload_n 3, 1) := by decide +kernel
theorem dL_law_1424 : decode cL_law 1424 = .ok (.iconst 1, 1) := by decide +kernel
theorem dL_law_1425 : decode cL_law 1425 = .ok (.iadd, 1) := by decide +kernel
theorem dL_law_1426 : decode cL_law 1426 = .ok (.iaload, 1) := by decide +kernel
theorem dL_law_1427 : decode cL_law 1427 = .ok (.aload_n 0, 1) := by decide +kernel
theorem dL_law_1428 : decode cL_law 1428 = .ok (.iload_n 3, 1) := by decide +kernel
theorem dL_law_1429 : decode cL_law 1429 = .ok (.iconst 2, 1) := by decide +kernel
theorem dL_law_1430 : decode cL_law 1430 = .ok (.iadd, 1) := by decide +kernel
theorem dL_law_1431 : decode cL_law 1431 = .ok (.iaload, 1) := by decide +kernel
theorem dL_law_1432 : decode cL_law 1432 = .ok (.aload_n 0, 1) := by decide +kernel
theorem dL_law_1433 : decode cL_law 1433 = .ok (.iload_n 3, 1) := by decide +kernel
theorem dL_law_1434 : decode cL_law 1434 = .ok (.iconst 3, 1) := by decide +kernel
theorem dL_law_1435 : decode cL_law 1435 = .ok (.iadd, 1) := by decide +kernel
theorem dL_law_1436 : decode cL_law 1436 = .ok (.iaload, 1) := by decide +kernel
theorem dL_law_1440 : decode cL_law 1440 = .ok (.pop2, 1) := by decide +kernel
theorem dL_law_1441 : decode cL_law 1441 = .ok (.aload_n 2, 1) := by decide +kernel
theorem dL_law_1442 : decode cL_law 1442 = .ok (.aload_n 0, 1) := by decide +kernel
theorem dL_law_1443 : decode cL_law 1443 = .ok (.iload_n 3, 1) := by decide +kernel
theorem dL_law_1444 : decode cL_law 1444 = .ok (.iconst 1, 1) := by decide +kernel
theorem dL_law_1445 : decode cL_law 1445 = .ok (.iadd, 1) := by decide +kernel
theorem dL_law_1446 : decode cL_law 1446 = .ok (.iaload, 1) := by decide +kernel
theorem dL_law_1447 : decode cL_law 1447 = .ok (.aload_n 0, 1) := by decide +kernel
theorem dL_law_1448 : decode cL_law 1448 = .ok (.iload_n 3, 1) := by decide +kernel
theorem dL_law_1449 : decode cL_law 1449 = .ok (.iconst 2, 1) := by decide +kernel
theorem dL_law_1450 : decode cL_law 1450 = .ok (.iadd, 1) := by decide +kernel
theorem dL_law_1451 : decode cL_law 1451 = .ok (.iaload, 1) := by decide +kernel
theorem dL_law_1452 : decode cL_law 1452 = .ok (.aload_n 0, 1) := by decide +kernel
theorem dL_law_1453 : decode cL_law 1453 = .ok (.iload_n 3, 1) := by decide +kernel
theorem dL_law_1454 : decode cL_law 1454 = .ok (.iconst 3, 1) := by decide +kernel
theorem dL_law_1455 : decode cL_law 1455 = .ok (.iadd, 1) := by decide +kernel
theorem dL_law_1456 : decode cL_law 1456 = .ok (.iaload, 1) := by decide +kernel
theorem dL_law_1460 : decode cL_law 1460 = .ok (.pop2, 1) := by decide +kernel
theorem dL_law_1461 : decode cL_law 1461 = .ok (.goto 234, 3) := by decide +kernel
theorem dL_law_1464 : decode cL_law 1464 = .ok (.aload_n 1, 1) := by decide +kernel
theorem dL_law_1465 : decode cL_law 1465 = .ok (.aload_n 0, 1) := by decide +kernel
theorem dL_law_1466 : decode cL_law 1466 = .ok (.iload_n 3, 1) := by decide +kernel
theorem dL_law_1467 : decode cL_law 1467 = .ok (.iconst 1, 1) := by decide +kernel
theorem dL_law_1468 : decode cL_law 1468 = .ok (.iadd, 1) := by decide +kernel
theorem dL_law_1469 : decode cL_law 1469 = .ok (.iaload, 1) := by decide +kernel
theorem dL_law_1470 : decode cL_law 1470 = .ok (.aload_n 0, 1) := by decide +kernel
theorem dL_law_1471 : decode cL_law 1471 = .ok (.iload_n 3, 1) := by decide +kernel
theorem dL_law_1472 : decode cL_law 1472 = .ok (.iconst 2, 1) := by decide +kernel
theorem dL_law_1473 : decode cL_law 1473 = .ok (.iadd, 1) := by decide +kernel
theorem dL_law_1474 : decode cL_law 1474 = .ok (.iaload, 1) := by decide +kernel
theorem dL_law_1478 : decode cL_law 1478 = .ok (.pop, 1) := by decide +kernel
theorem dL_law_1479 : decode cL_law 1479 = .ok (.aload_n 2, 1) := by decide +kernel
theorem dL_law_1480 : decode cL_law 1480 = .ok (.aload_n 0, 1) := by decide +kernel
theorem dL_law_1481 : decode cL_law 1481 = .ok (.iload_n 3, 1) := by decide +kernel
theorem dL_law_1482 : decode cL_law 1482 = .ok (.iconst 1, 1) := by decide +kernel
theorem dL_law_1483 : decode cL_law 1483 = .ok (.iadd, 1) := by decide +kernel
theorem dL_law_1484 : decode cL_law 1484 = .ok (.iaload, 1) := by decide +kernel
theorem dL_law_1485 : decode cL_law 1485 = .ok (.aload_n 0, 1) := by decide +kernel
theorem dL_law_1486 : decode cL_law 1486 = .ok (.iload_n 3, 1) := by decide +kernel
theorem dL_law_1487 : decode cL_law 1487 = .ok (.iconst 2, 1) := by decide +kernel
theorem dL_law_1488 : decode cL_law 1488 = .ok (.iadd, 1) := by decide +kernel
theorem dL_law_1489 : decode cL_law 1489 = .ok (.iaload, 1) := by decide +kernel
theorem dL_law_1493 : decode cL_law 1493 = .ok (.pop, 1) := by decide +kernel
theorem dL_law_1494 : decode cL_law 1494 = .ok (.goto 201, 3) := by decide +kernel
theorem dL_law_1497 : decode cL_law 1497 = .ok (.aload_n 1, 1) := by decide +kernel
theorem dL_law_1498 : decode cL_law 1498 = .ok (.aload_n 0, 1) := by decide +kernel
theorem dL_law_1499 : decode cL_law 1499 = .ok (.iload_n 3, 1) := by decide +kernel
theorem dL_law_1500 : decode cL_law 1500 = .ok (.iconst 1, 1) := by decide +kernel
theorem dL_law_1501 : decode cL_law 1501 = .ok (.iadd, 1) := by decide +kernel
theorem dL_law_1502 : decode cL_law 1502 = .ok (.iaload, 1) := by decide +kernel
theorem dL_law_1503 : decode cL_law 1503 = .ok (.aload_n 0, 1) := by decide +kernel
theorem dL_law_1504 : decode cL_law 1504 = .ok (.iload_n 3, 1) := by decide +kernel
theorem dL_law_1505 : decode cL_law 1505 = .ok (.iconst 2, 1) := by decide +kernel
theorem dL_law_1506 : decode cL_law 1506 = .ok (.iadd, 1) := by decide +kernel
theorem dL_law_1507 : decode cL_law 1507 = .ok (.iaload, 1) := by decide +kernel
theorem dL_law_1508 : decode cL_law 1508 = .ok (.aload_n 0, 1) := by decide +kernel
theorem dL_law_1509 : decode cL_law 1509 = .ok (.iload_n 3, 1) := by decide +kernel
theorem dL_law_1510 : decode cL_law 1510 = .ok (.iconst 3, 1) := by decide +kernel
theorem dL_law_1511 : decode cL_law 1511 = .ok (.iadd, 1) := by decide +kernel
theorem dL_law_1512 : decode cL_law 1512 = .ok (.iaload, 1) := by decide +kernel
theorem dL_law_1516 : decode cL_law 1516 = .ok (.pop2, 1) := by decide +kernel
theorem dL_law_1517 : decode cL_law 1517 = .ok (.aload_n 2, 1) := by decide +kernel
theorem dL_law_1518 : decode cL_law 1518 = .ok (.aload_n 0, 1) := by decide +kernel
theorem dL_law_1519 : decode cL_law 1519 = .ok (.iload_n 3, 1) := by decide +kernel
theorem dL_law_1520 : decode cL_law 1520 = .ok (.iconst 1, 1) := by decide +kernel
theorem dL_law_1521 : decode cL_law 1521 = .ok (.iadd, 1) := by decide +kernel
theorem dL_law_1522 : decode cL_law 1522 = .ok (.iaload, 1) := by decide +kernel
theorem dL_law_1523 : decode cL_law 1523 = .ok (.aload_n 0, 1) := by decide +kernel
theorem dL_law_1524 : decode cL_law 1524 = .ok (.iload_n 3, 1) := by decide +kernel
theorem dL_law_1525 : decode cL_law 1525 = .ok (.iconst 2, 1) := by decide +kernel
theorem dL_law_1526 : decode cL_law 1526 = .ok (.iadd, 1) := by decide +kernel
theorem dL_law_1527 : decode cL_law 1527 = .ok (.iaload, 1) := by decide +kernel
theorem dL_law_1528 : decode cL_law 1528 = .ok (.aload_n 0, 1) := by decide +kernel
theorem dL_law_1529 : decode cL_law 1529 = .ok (.iload_n 3, 1) := by decide +kernel
theorem dL_law_1530 : decode cL_law 1530 = .ok (.iconst 3, 1) := by decide +kernel
theorem dL_law_1531 : decode cL_law 1531 = .ok (.iadd, 1) := by decide +kernel
theorem dL_law_1532 : decode cL_law 1532 = .ok (.iaload, 1) := by decide +kernel
theorem dL_law_1536 : decode cL_law 1536 = .ok (.pop2, 1) := by decide +kernel
theorem dL_law_1537 : decode cL_law 1537 = .ok (.goto 158, 3) := by decide +kernel
theorem dL_law_1540 : decode cL_law 1540 = .ok (.aload_n 1, 1) := by decide +kernel
theorem dL_law_1541 : decode cL_law 1541 = .ok (.aload_n 0, 1) := by decide +kernel
theorem dL_law_1542 : decode cL_law 1542 = .ok (.iload_n 3, 1) := by decide +kernel
theorem dL_law_1543 : decode cL_law 1543 = .ok (.iconst 1, 1) := by decide +kernel
theorem dL_law_1544 : decode cL_law 1544 = .ok (.iadd, 1) := by decide +kernel
theorem dL_law_1545 : decode cL_law 1545 = .ok (.iaload, 1) := by decide +kernel
theorem dL_law_1546 : decode cL_law 1546 = .ok (.aload_n 0, 1) := by decide +kernel
theorem dL_law_1547 : decode cL_law 1547 = .ok (.iload_n 3, 1) := by decide +kernel
theorem dL_law_1548 : decode cL_law 1548 = .ok (.iconst 2, 1) := by decide +kernel
theorem dL_law_1549 : decode cL_law 1549 = .ok (.iadd, 1) := by decide +kernel
theorem dL_law_1550 : decode cL_law 1550 = .ok (.iaload, 1) := by decide +kernel
theorem dL_law_1551 : decode cL_law 1551 = .ok (.aload_n 0, 1) := by decide +kernel
theorem dL_law_1552 : decode cL_law 1552 = .ok (.iload_n 3, 1) := by decide +kernel
theorem dL_law_1553 : decode cL_law 1553 = .ok (.iconst 3, 1) := by decide +kernel
theorem dL_law_1554 : decode cL_law 1554 = .ok (.iadd, 1) := by decide +kernel
theorem dL_law_1555 : decode cL_law 1555 = .ok (.iaload, 1) := by decide +kernel
theorem dL_law_1559 : decode cL_law 1559 = .ok (.pop2, 1) := by decide +kernel
theorem dL_law_1560 : decode cL_law 1560 = .ok (.aload_n 2, 1) := by decide +kernel
theorem dL_law_1561 : decode cL_law 1561 = .ok (.aload_n 0, 1) := by decide +kernel
theorem dL_law_1562 : decode cL_law 1562 = .ok (.iload_n 3, 1) := by decide +kernel
theorem dL_law_1563 : decode cL_law 1563 = .ok (.iconst 1, 1) := by decide +kernel
theorem dL_law_1564 : decode cL_law 1564 = .ok (.iadd, 1) := by decide +kernel
theorem dL_law_1565 : decode cL_law 1565 = .ok (.iaload, 1) := by decide +kernel
theorem dL_law_1566 : decode cL_law 1566 = .ok (.aload_n 0, 1) := by decide +kernel
theorem dL_law_1567 : decode cL_law 1567 = .ok (.iload_n 3, 1) := by decide +kernel
theorem dL_law_1568 : decode cL_law 1568 = .ok (.iconst 2, 1) := by decide +kernel
theorem dL_law_1569 : decode cL_law 1569 = .ok (.iadd, 1) := by decide +kernel
theorem dL_law_1570 : decode cL_law 1570 = .ok (.iaload, 1) := by decide +kernel
theorem dL_law_1571 : decode cL_law 1571 = .ok (.aload_n 0, 1) := by decide +kernel
theorem dL_law_1572 : decode cL_law 1572 = .ok (.iload_n 3, 1) := by decide +kernel
theorem dL_law_1573 : decode cL_law 1573 = .ok (.iconst 3, 1) := by decide +kernel
theorem dL_law_1574 : decode cL_law 1574 = .ok (.iadd, 1) := by decide +kernel
theorem dL_law_1575 : decode cL_law 1575 = .ok (.iaload, 1) := by decide +kernel
theorem dL_law_1579 : decode cL_law 1579 = .ok (.pop2, 1) := by decide +kernel
theorem dL_law_1580 : decode cL_law 1580 = .ok (.goto 115, 3) := by decide +kernel
theorem dL_law_1583 : decode cL_law 1583 = .ok (.aload_n 1, 1) := by decide +kernel
theorem dL_law_1584 : decode cL_law 1584 = .ok (.aload_n 0, 1) := by decide +kernel
theorem dL_law_1585 : decode cL_law 1585 = .ok (.iload_n 3, 1) := by decide +kernel
theorem dL_law_1586 : decode cL_law 1586 = .ok (.iconst 1, 1) := by decide +kernel
theorem dL_law_1587 : decode cL_law 1587 = .ok (.iadd, 1) := by decide +kernel
theorem dL_law_1588 : decode cL_law 1588 = .ok (.iaload, 1) := by decide +kernel
theorem dL_law_1589 : decode cL_law 1589 = .ok (.aload_n 0, 1) := by decide +kernel
theorem dL_law_1590 : decode cL_law 1590 = .ok (.iload_n 3, 1) := by decide +kernel
theorem dL_law_1591 : decode cL_law 1591 = .ok (.iconst 2, 1) := by decide +kernel
theorem dL_law_1592 : decode cL_law 1592 = .ok (.iadd, 1) := by decide +kernel
theorem dL_law_1593 : decode cL_law 1593 = .ok (.iaload, 1) := by decide +kernel
theorem dL_law_1594 : decode cL_law 1594 = .ok (.i2l, 1) := by decide +kernel
theorem dL_law_1595 : decode cL_law 1595 = .ok (.bipush 32, 2) := by decide +kernel
theorem dL_law_1597 : decode cL_law 1597 = .ok (.lshl, 1) := by decide +kernel
theorem dL_law_1598 : decode cL_law 1598 = .ok (.aload_n 0, 1) := by decide +kernel
theorem dL_law_1599 : decode cL_law 1599 = .ok (.iload_n 3, 1) := by decide +kernel
theorem dL_law_1600 : decode cL_law 1600 = .ok (.iconst 3, 1) := by decide +kernel
theorem dL_law_1601 : decode cL_law 1601 = .ok (.iadd, 1) := by decide +kernel
theorem dL_law_1602 : decode cL_law 1602 = .ok (.iaload, 1) := by decide +kernel
theorem dL_law_1603 : decode cL_law 1603 = .ok (.i2l, 1) := by decide +kernel
theorem dL_law_1604 : decode cL_law 1604 = .ok (.ldc2_w 153, 3) := by decide +kernel
theorem dL_law_1607 : decode cL_law 1607 = .ok (.land, 1) := by decide +kernel
theorem dL_law_1608 : decode cL_law 1608 = .ok (.lor, 1) := by decide +kernel
theorem dL_law_1612 : decode cL_law 1612 = .ok (.pop, 1) := by decide +kernel
theorem dL_law_1613 : decode cL_law 1613 = .ok (.aload_n 2, 1) := by decide +kernel
theorem dL_law_1614 : decode cL_law 1614 = .ok (.aload_n 0, 1) := by decide +kernel
theorem dL_law_1615 : decode cL_law 1615 = .ok (.iload_n 3, 1) := by decide +kernel
theorem dL_law_1616 : decode cL_law 1616 = .ok (.iconst 1, 1) := by decide +kernel
theorem dL_law_1617 : decode cL_law 1617 = .ok (.iadd, 1) := by decide +kernel
theorem dL_law_1618 : decode cL_law 1618 = .ok (.iaload, 1) := by decide +kernel
theorem dL_law_1619 : decode cL_law 1619 = .ok (.aload_n 0, 1) := by decide +kernel
theorem dL_law_1620 : decode cL_law 1620 = .ok (.iload_n 3, 1) := by decide +kernel
theorem dL_law_1621 : decode cL_law 1621 = .ok (.iconst 2, 1) := by decide +kernel
theorem dL_law_1622 : decode cL_law 1622 = .ok (.iadd, 1) := by decide +kernel
theorem dL_law_1623 : decode cL_law 1623 = .ok (.iaload, 1) := by decide +kernel
theorem dL_law_1624 : decode cL_law 1624 = .ok (.i2l, 1) := by decide +kernel
theorem dL_law_1625 : decode cL_law 1625 = .ok (.bipush 32, 2) := by decide +kernel
theorem dL_law_1627 : decode cL_law 1627 = .ok (.lshl, 1) := by decide +kernel
theorem dL_law_1628 : decode cL_law 1628 = .ok (.aload_n 0, 1) := by decide +kernel
theorem dL_law_1629 : decode cL_law 1629 = .ok (.iload_n 3, 1) := by decide +kernel
theorem dL_law_1630 : decode cL_law 1630 = .ok (.iconst 3, 1) := by decide +kernel
theorem dL_law_1631 : decode cL_law 1631 = .ok (.iadd, 1) := by decide +kernel
theorem dL_law_1632 : decode cL_law 1632 = .ok (.iaload, 1) := by decide +kernel
theorem dL_law_1633 : decode cL_law 1633 = .ok (.i2l, 1) := by decide +kernel
theorem dL_law_1634 : decode cL_law 1634 = .ok (.ldc2_w 153, 3) := by decide +kernel
theorem dL_law_1637 : decode cL_law 1637 = .ok (.land, 1) := by decide +kernel
theorem dL_law_1638 : decode cL_law 1638 = .ok (.lor, 1) := by decide +kernel
theorem dL_law_1642 : decode cL_law 1642 = .ok (.pop, 1) := by decide +kernel
theorem dL_law_1643 : decode cL_law 1643 = .ok (.goto 52, 3) := by decide +kernel
theorem dL_law_1646 : decode cL_law 1646 = .ok (.aload_n 1, 1) := by decide +kernel
theorem dL_law_1647 : decode cL_law 1647 = .ok (.aload_n 0, 1) := by decide +kernel
theorem dL_law_1648 : decode cL_law 1648 = .ok (.iload_n 3, 1) := by decide +kernel
theorem dL_law_1649 : decode cL_law 1649 = .ok (.iconst 1, 1) := by decide +kernel
theorem dL_law_1650 : decode cL_law 1650 = .ok (.iadd, 1) := by decide +kernel
theorem dL_law_1651 : decode cL_law 1651 = .ok (.iaload, 1) := by decide +kernel
theorem dL_law_1655 : decode cL_law 1655 = .ok (.pop, 1) := by decide +kernel
theorem dL_law_1656 : decode cL_law 1656 = .ok (.aload_n 2, 1) := by decide +kernel
theorem dL_law_1657 : decode cL_law 1657 = .ok (.aload_n 0, 1) := by decide +kernel
theorem dL_law_1658 : decode cL_law 1658 = .ok (.iload_n 3, 1) := by decide +kernel
theorem dL_law_1659 : decode cL_law 1659 = .ok (.iconst 1, 1) := by decide +kernel
theorem dL_law_1660 : decode cL_law 1660 = .ok (.iadd, 1) := by decide +kernel
theorem dL_law_1661 : decode cL_law 1661 = .ok (.iaload, 1) := by decide +kernel
theorem dL_law_1665 : decode cL_law 1665 = .ok (.pop, 1) := by decide +kernel
theorem dL_law_1666 : decode cL_law 1666 = .ok (.goto 29, 3) := by decide +kernel
theorem dL_law_1669 : decode cL_law 1669 = .ok (.aload_n 1, 1) := by decide +kernel
theorem dL_law_1673 : decode cL_law 1673 = .ok (.pop, 1) := by decide +kernel
theorem dL_law_1674 : decode cL_law 1674 = .ok (.aload_n 2, 1) := by decide +kernel
theorem dL_law_1678 : decode cL_law 1678 = .ok (.pop, 1) := by decide +kernel
theorem dL_law_1679 : decode cL_law 1679 = .ok (.goto 16, 3) := by decide +kernel
theorem dL_law_1682 : decode cL_law 1682 = .ok (.aload_n 1, 1) := by decide +kernel
theorem dL_law_1686 : decode cL_law 1686 = .ok (.aload_n 2, 1) := by decide +kernel
theorem dL_law_1690 : decode cL_law 1690 = .ok (.if_icmp .eq 5, 3) := by decide +kernel
theorem dL_law_1695 : decode cL_law 1695 = .ok (.iinc 3 6, 3) := by decide +kernel
theorem dL_law_1698 : decode cL_law 1698 = .ok (.goto (-1680), 3) := by decide +kernel
theorem dL_law_1701 : decode cL_law 1701 = .ok (.iconst 1, 1) := by decide +kernel
theorem dL_law_1702 : decode cL_law 1702 = .ok (.ireturn, 1) := by decide +kernel
theorem wd_1227 : Cond.constantLong RL 153 4294967295 ∈ lw_good := mem_t7 191 (by decide +kernel) rfl
set_option maxHeartbeats 4000000 in
set_option maxRecDepth 100000 in
theorem law_c0 {p : Program} {l : Launch} {e : Env} {s : State} {m : MethodId} {below : List Frame} {meth : Method} {c : Code} {b Ln : Nat} {xs : Nat → Int32} (C0 : lw_At p s m meth c b Ln xs) {D : va_G} {cy : Nat → ClassId} {A : Nat → Prop} (hA : ∀ q, s.heap.size ≤ q → A q) (hA2 : ∀ q, A q → s.heap.size ≤ q) (hbA : ¬ A b) (hN : NW s) (hK : va_K D vwCl (tysC cy) s) (hST : STAT A s) {xa za : Nat} {j : Nat} {H : Heap} {locs : List Loc} {cells slots : Nat} {ls : Array Slot} (hj : 6 * j + 6 ≤ Ln) (hLn : Ln ≤ 3072) (hc : cells + 720 ≤ 600000) (hs : slots + 4320 ≤ 7302250) (hLS : LSt D cy A xa za j H) (hS : va_S A s.heap H locs) (hl : lv_has ls 4 [(3, .int (nI (6 * j))), (2, .ref za), (1, .ref xa), (0, .ref b)]) (kk : ∀ (H1 : Heap) (locs1 : List Loc) (c1 s1 : Nat), c1 ≤ cells + 720 → s1 ≤ slots + 4320 → LSt D cy A xa za (j + 1) H1 → va_S A s.heap H1 locs1 → W p l e room_1 s m #[Value.ref b] below meth c H1 locs1 c1 s1 (lw_Z below #[Value.ref b] s) (F0 m 1695 ls [])) : W p l e room_1 s m #[Value.ref b] below meth c H locs cells slots (lw_Z below #[Value.ref b] s) (F0 m 196 ls []) := by
  obtain ⟨hx, hb, hr, hml, hown, hts, hX, hbl, hlocks, hgv⟩ := id C0
  have hg : ∀ w ∈ lw_good, w.before #[Value.ref b] s = true := fun w h => hts w (List.mem_filter.mp h).1
  have hown : s.vm.findClass RL = some m.cls := hown
  obtain ⟨n, n3, T, PK, PT, SX, SY, WH, W1, W2, hT, hXS, hZS, hP1, hP2, hD1, hD2, hap⟩ := hLS
  have q1 := inbN (6 * j + 1) Ln (by omega) (by omega)
  have q2 : (cells + 21) ≤ 600000 ∧ (slots + 2800) ≤ 7302250 := ⟨by omega, by omega⟩
  have q3 : 0 ≤ T ∧ T ≤ 900000 := ⟨by omega, by omega⟩
  have q4 : ((cells + 21) + 0) ≤ 600000 ∧ ((slots + 2800) + 0) ≤ 7302250 := ⟨by omega, by omega⟩
  have q5 : ((cells + 21) + 0) ≤ cells + 720 := by omega
  have q6 : ((slots + 2800) + 0) ≤ slots + 4320 := by omega
  have q7 : 0 ≤ (T + 1) ∧ (T + 1) ≤ ((j + 1 : Nat) : Int) := ⟨by omega, by omega⟩
  refine lv_aload_n hx hb dL_law_196 rfl (lv_at hl 2 rfl) ?_
  refine lv_aload_n hx hb dL_law_197 rfl (lv_at hl 3 rfl) ?_
  refine lv_iload_n hx hb dL_law_198 rfl (lv_at hl 0 rfl) ?_
  refine lv_iconst (v := 1) hx hb dL_law_199 (by decide) ?_
  refine lv_iadd hx hb dL_law_200 ?_
  refine lv_topi (fun f1 ef1 => ?_)
  obtain rfl : f1 = nI (6 * j + 1) := ef1.trans (nI_add (6 * j) 1)
  refine va_sld hx hb hX hbl hbA hS q1 dL_law_201 ?_
  refine cx_house C0 hA hN hK hST (xs ((nI (6 * j + 1)) : Int32).toNatClampNeg) q2 q3 hZS.svhi hXS hP1 hP2 hD1 hap hS hl (fun r2 W1 H locs _hr hXS hP1 hP2 hD1 hap hS => ?_)
  refine lv_pop hx hb dL_law_205 rfl ?_
  refine lv_aload_n hx hb dL_law_206 rfl (lv_at hl 1 rfl) ?_
  refine lv_aload_n hx hb dL_law_207 rfl (lv_at hl 3 rfl) ?_
  refine lv_iload_n hx hb dL_law_208 rfl (lv_at hl 0 rfl) ?_
  refine lv_iconst (v := 1) hx hb dL_law_209 (by decide) ?_
  refine lv_iadd hx hb dL_law_210 ?_
  refine lv_topi (fun f3 ef3 => ?_)
  obtain rfl : f3 = nI (6 * j + 1) := ef3.trans (nI_add (6 * j) 1)
  refine va_sld hx hb hX hbl hbA hS q1 dL_law_211 ?_
  refine cz_house C0 hA hN hK hST (xs ((nI (6 * j + 1)) : Int32).toNatClampNeg) q4 hZS hP2 hP1 hD2 hap.sy hS hl (fun r4 W2 H locs _hr hZS hP2 hP1 hD2 hap hS => ?_)
  have hap := hap.sy
  obtain ⟨X9, Y9, hc9, hZS⟩ := hZS
  have hXS := hXS.imp (Q := PS _ _ (T + 1) _ _ _ _ _) (fun x0 x2 x5 x6 x8 x7 x9 x10 K L M h => ⟨h.1 X9 Y9 hc9, h.2⟩)
  refine lv_pop hx hb dL_law_215 rfl ?_
  refine lv_goto (tgt := 1695) hx hb dL_law_216 (by decide) ?_
  exact kk H locs _ _ q5 q6 ⟨_, _, (T + 1), _, _, _, _, _, _, _, q7, hXS, hZS, hP1, hP2, hD1, hD2, hap⟩ hS
set_option maxHeartbeats 4000000 in
set_option maxRecDepth 100000 in
theorem law_c1 {p : Program} {l : Launch} {e : Env} {s : State} {m : MethodId} {below : List Frame} {meth : Method} {c : Code} {b Ln : Nat} {xs : Nat → Int32} (C0 : lw_At p s m meth c b Ln xs) {D : va_G} {cy : Nat → ClassId} {A : Nat → Prop} (hA : ∀ q, s.heap.size ≤ q → A q) (hA2 : ∀ q, A q → s.heap.size ≤ q) (hbA : ¬ A b) (hN : NW s) (hK : va_K D vwCl (tysC cy) s) (hST : STAT A s) {xa za : Nat} {j : Nat} {H : Heap} {locs : List Loc} {cells slots : Nat} {ls : Array Slot} (hj : 6 * j + 6 ≤ Ln) (hLn : Ln ≤ 3072) (hc : cells + 720 ≤ 600000) (hs : slots + 4320 ≤ 7302250) (hLS : LSt D cy A xa za j H) (hS : va_S A s.heap H locs) (hl : lv_has ls 4 [(3, .int (nI (6 * j))), (2, .ref za), (1, .ref xa), (0, .ref b)]) (kk : ∀ (H1 : Heap) (locs1 : List Loc) (c1 s1 : Nat), c1 ≤ cells + 720 → s1 ≤ slots + 4320 → LSt D cy A xa za (j + 1) H1 → va_S A s.heap H1 locs1 → W p l e room_1 s m #[Value.ref b] below meth c H1 locs1 c1 s1 (lw_Z below #[Value.ref b] s) (F0 m 1695 ls [])) : W p l e room_1 s m #[Value.ref b] below meth c H locs cells slots (lw_Z below #[Value.ref b] s) (F0 m 219 ls []) := by
  obtain ⟨hx, hb, hr, hml, hown, hts, hX, hbl, hlocks, hgv⟩ := id C0
  have hg : ∀ w ∈ lw_good, w.before #[Value.ref b] s = true := fun w h => hts w (List.mem_filter.mp h).1
  have hown : s.vm.findClass RL = some m.cls := hown
  obtain ⟨n, n3, T, PK, PT, SX, SY, WH, W1, W2, hT, hXS, hZS, hP1, hP2, hD1, hD2, hap⟩ := hLS
  have q1 := inbN (6 * j + 1) Ln (by omega) (by omega)
  have q2 := inbN (6 * j + 2) Ln (by omega) (by omega)
  have q3 : (cells + 1) ≤ 600000 ∧ (slots + 4) ≤ 7302250 := ⟨by omega, by omega⟩
  have q4 : 0 ≤ T ∧ T ≤ 900000 := ⟨by omega, by omega⟩
  have q5 : ((cells + 1) + 0) ≤ 600000 ∧ ((slots + 4) + 0) ≤ 7302250 := ⟨by omega, by omega⟩
  have q6 : ((cells + 1) + 0) ≤ cells + 720 := by omega
  have q7 : ((slots + 4) + 0) ≤ slots + 4320 := by omega
  have q8 : 0 ≤ (T + 1) ∧ (T + 1) ≤ ((j + 1 : Nat) : Int) := ⟨by omega, by omega⟩
  refine lv_aload_n hx hb dL_law_219 rfl (lv_at hl 2 rfl) ?_
  refine lv_aload_n hx hb dL_law_220 rfl (lv_at hl 3 rfl) ?_
  refine lv_iload_n hx hb dL_law_221 rfl (lv_at hl 0 rfl) ?_
  refine lv_iconst (v := 1) hx hb dL_law_222 (by decide) ?_
  refine lv_iadd hx hb dL_law_223 ?_
  refine lv_topi (fun f1 ef1 => ?_)
  obtain rfl : f1 = nI (6 * j + 1) := ef1.trans (nI_add (6 * j) 1)
  refine va_sld hx hb hX hbl hbA hS q1 dL_law_224 ?_
  refine lv_aload_n hx hb dL_law_225 rfl (lv_at hl 3 rfl) ?_
  refine lv_iload_n hx hb dL_law_226 rfl (lv_at hl 0 rfl) ?_
  refine lv_iconst (v := 2) hx hb dL_law_227 (by decide) ?_
  refine lv_iadd hx hb dL_law_228 ?_
  refine lv_topi (fun f2 ef2 => ?_)
  obtain rfl : f2 = nI (6 * j + 2) := ef2.trans (nI_add (6 * j) 2)
  refine va_sld hx hb hX hbl hbA hS q2 dL_law_229 ?_
  refine cx_partner C0 hA hN hK hST (xs ((nI (6 * j + 1)) : Int32).toNatClampNeg) (xs ((nI (6 * j + 2)) : Int32).toNatClampNeg) q3 q4 hZS.svhi hXS hP1 hP2 hD1 hap hS hl (fun r3 W1 H locs _hr hXS hP1 hP2 hD1 hap hS => ?_)
  refine lv_pop hx hb dL_law_233 rfl ?_
  refine lv_aload_n hx hb dL_law_234 rfl (lv_at hl 1 rfl) ?_
  refine lv_aload_n hx hb dL_law_235 rfl (lv_at hl 3 rfl) ?_
  refine lv_iload_n hx hb dL_law_236 rfl (lv_at hl 0 rfl) ?_
  refine lv_iconst (v := 1) hx hb dL_law_237 (by decide) ?_
  refine lv_iadd hx hb dL_law_238 ?_
  refine lv_topi (fun f4 ef4 => ?_)
  obtain rfl : f4 = nI (6 * j + 1) := ef4.trans (nI_add (6 * j) 1)
  refine va_sld hx hb hX hbl hbA hS q1 dL_law_239 ?_
  refine lv_aload_n hx hb dL_law_240 rfl (lv_at hl 3 rfl) ?_
  refine lv_iload_n hx hb dL_law_241 rfl (lv_at hl 0 rfl) ?_
  refine lv_iconst (v := 2) hx hb dL_law_242 (by decide) ?_
  refine lv_iadd hx hb dL_law_243 ?_
  refine lv_topi (fun f5 ef5 => ?_)
  obtain rfl : f5 = nI (6 * j + 2) := ef5.trans (nI_add (6 * j) 2)
  refine va_sld hx hb hX hbl hbA hS q2 dL_law_244 ?_
  refine cz_partner C0 hA hN hK hST (xs ((nI (6 * j + 1)) : Int32).toNatClampNeg) (xs ((nI (6 * j + 2)) : Int32).toNatClampNeg) q5 hZS hP2 hP1 hD2 hap.sy hS hl (fun r6 W2 H locs _hr hZS hP2 hP1 hD2 hap hS => ?_)
  have hap := hap.sy
  have hXS := hXS.imp (Q := PS _ _ (T + 1) _ _ _ _ _) (fun x0 x2 x5 x6 x8 x7 x9 x10 K L M h => h)
  refine lv_pop hx hb dL_law_248 rfl ?_
  refine lv_goto (tgt := 1695) hx hb dL_law_249 (by decide) ?_
  exact kk H locs _ _ q6 q7 ⟨_, _, (T + 1), _, _, _, _, _, _, _, q8, hXS, hZS, hP1, hP2, hD1, hD2, hap⟩ hS
set_option maxHeartbeats 4000000 in
set_option maxRecDepth 100000 in
theorem law_c2 {p : Program} {l : Launch} {e : Env} {s : State} {m : MethodId} {below : List Frame} {meth : Method} {c : Code} {b Ln : Nat} {xs : Nat → Int32} (C0 : lw_At p s m meth c b Ln xs) {D : va_G} {cy : Nat → ClassId} {A : Nat → Prop} (hA : ∀ q, s.heap.size ≤ q → A q) (hA2 : ∀ q, A q → s.heap.size ≤ q) (hbA : ¬ A b) (hN : NW s) (hK : va_K D vwCl (tysC cy) s) (hST : STAT A s) {xa za : Nat} {j : Nat} {H : Heap} {locs : List Loc} {cells slots : Nat} {ls : Array Slot} (hj : 6 * j + 6 ≤ Ln) (hLn : Ln ≤ 3072) (hc : cells + 720 ≤ 600000) (hs : slots + 4320 ≤ 7302250) (hLS : LSt D cy A xa za j H) (hS : va_S A s.heap H locs) (hl : lv_has ls 4 [(3, .int (nI (6 * j))), (2, .ref za), (1, .ref xa), (0, .ref b)]) (kk : ∀ (H1 : Heap) (locs1 : List Loc) (c1 s1 : Nat), c1 ≤ cells + 720 → s1 ≤ slots + 4320 → LSt D cy A xa za (j + 1) H1 → va_S A s.heap H1 locs1 → W p l e room_1 s m #[Value.ref b] below meth c H1 locs1 c1 s1 (lw_Z below #[Value.ref b] s) (F0 m 1695 ls [])) : W p l e room_1 s m #[Value.ref b] below meth c H locs cells slots (lw_Z below #[Value.ref b] s) (F0 m 252 ls []) := by
  obtain ⟨hx, hb, hr, hml, hown, hts, hX, hbl, hlocks, hgv⟩ := id C0
  have hg : ∀ w ∈ lw_good, w.before #[Value.ref b] s = true := fun w h => hts w (List.mem_filter.mp h).1
  have hown : s.vm.findClass RL = some m.cls := hown
  obtain ⟨n, n3, T, PK, PT, SX, SY, WH, W1, W2, hT, hXS, hZS, hP1, hP2, hD1, hD2, hap⟩ := hLS
  have q1 := inbN (6 * j + 1) Ln (by omega) (by omega)
  have q2 := inbN (6 * j + 2) Ln (by omega) (by omega)
  have q3 := inbN (6 * j + 3) Ln (by omega) (by omega)
  have q4 : (cells + 0) ≤ 600000 ∧ (slots + 0) ≤ 7302250 := ⟨by omega, by omega⟩
  have q5 : 0 ≤ T ∧ T ≤ 900000 := ⟨by omega, by omega⟩
  have q6 : ((cells + 0) + 0) ≤ 600000 ∧ ((slots + 0) + 0) ≤ 7302250 := ⟨by omega, by omega⟩
  have q7 : ((cells + 0) + 0) ≤ cells + 720 := by omega
  have q8 : ((slots + 0) + 0) ≤ slots + 4320 := by omega
  have q9 : 0 ≤ (T + 1) ∧ (T + 1) ≤ ((j + 1 : Nat) : Int) := ⟨by omega, by omega⟩
  refine lv_aload_n hx hb dL_law_252 rfl (lv_at hl 2 rfl) ?_
  refine lv_aload_n hx hb dL_law_253 rfl (lv_at hl 3 rfl) ?_
  refine lv_iload_n hx hb dL_law_254 rfl (lv_at hl 0 rfl) ?_
  refine lv_iconst (v := 1) hx hb dL_law_255 (by decide) ?_
  refine lv_iadd hx hb dL_law_256 ?_
  refine lv_topi (fun f1 ef1 => ?_)
  obtain rfl : f1 = nI (6 * j + 1) := ef1.trans (nI_add (6 * j) 1)
  refine va_sld hx hb hX hbl hbA hS q1 dL_law_257 ?_
  refine lv_aload_n hx hb dL_law_258 rfl (lv_at hl 3 rfl) ?_
  refine lv_iload_n hx hb dL_law_259 rfl (lv_at hl 0 rfl) ?_
  refine lv_iconst (v := 2) hx hb dL_law_260 (by decide) ?_
  refine lv_iadd hx hb dL_law_261 ?_
  refine lv_topi (fun f2 ef2 => ?_)
  obtain rfl : f2 = nI (6 * j + 2) := ef2.trans (nI_add (6 * j) 2)
  refine va_sld hx hb hX hbl hbA hS q2 dL_law_262 ?_
  refine lv_aload_n hx hb dL_law_263 rfl (lv_at hl 3 rfl) ?_
  refine lv_iload_n hx hb dL_law_264 rfl (lv_at hl 0 rfl) ?_
  refine lv_iconst (v := 3) hx hb dL_law_265 (by decide) ?_
  refine lv_iadd hx hb dL_law_266 ?_
  refine lv_topi (fun f3 ef3 => ?_)
  obtain rfl : f3 = nI (6 * j + 3) := ef3.trans (nI_add (6 * j) 3)
  refine va_sld hx hb hX hbl hbA hS q3 dL_law_267 ?_
  refine cx_letter C0 hA hN hK hST (xs ((nI (6 * j + 1)) : Int32).toNatClampNeg) (xs ((nI (6 * j + 2)) : Int32).toNatClampNeg) (xs ((nI (6 * j + 3)) : Int32).toNatClampNeg) q4 q5 hZS.svhi hXS hP1 hP2 hD1 hap hS hl (fun r4 W1 H locs _hr hXS hP1 hP2 hD1 hap hS => ?_)
  refine lv_pop hx hb dL_law_271 rfl ?_
  refine lv_aload_n hx hb dL_law_272 rfl (lv_at hl 1 rfl) ?_
  refine lv_aload_n hx hb dL_law_273 rfl (lv_at hl 3 rfl) ?_
  refine lv_iload_n hx hb dL_law_274 rfl (lv_at hl 0 rfl) ?_
  refine lv_iconst (v := 1) hx hb dL_law_275 (by decide) ?_
  refine lv_iadd hx hb dL_law_276 ?_
  refine lv_topi (fun f5 ef5 => ?_)
  obtain rfl : f5 = nI (6 * j + 1) := ef5.trans (nI_add (6 * j) 1)
  refine va_sld hx hb hX hbl hbA hS q1 dL_law_277 ?_
  refine lv_aload_n hx hb dL_law_278 rfl (lv_at hl 3 rfl) ?_
  refine lv_iload_n hx hb dL_law_279 rfl (lv_at hl 0 rfl) ?_
  refine lv_iconst (v := 2) hx hb dL_law_280 (by decide) ?_
  refine lv_iadd hx hb dL_law_281 ?_
  refine lv_topi (fun f6 ef6 => ?_)
  obtain rfl : f6 = nI (6 * j + 2) := ef6.trans (nI_add (6 * j) 2)
  refine va_sld hx hb hX hbl hbA hS q2 dL_law_282 ?_
  refine lv_aload_n hx hb dL_law_283 rfl (lv_at hl 3 rfl) ?_
  refine lv_iload_n hx hb dL_law_284 rfl (lv_at hl 0 rfl) ?_
  refine lv_iconst (v := 3) hx hb dL_law_285 (by decide) ?_
  refine lv_iadd hx hb dL_law_286 ?_
  refine lv_topi (fun f7 ef7 => ?_)
  obtain rfl : f7 = nI (6 * j + 3) := ef7.trans (nI_add (6 * j) 3)
  refine va_sld hx hb hX hbl hbA hS q3 dL_law_287 ?_
  refine cz_letter C0 hA hN hK hST (xs ((nI (6 * j + 1)) : Int32).toNatClampNeg) (xs ((nI (6 * j + 2)) : Int32).toNatClampNeg) (xs ((nI (6 * j + 3)) : Int32).toNatClampNeg) q6 hZS hP2 hP1 hD2 hap.sy hS hl (fun r8 W2 H locs _hr hZS hP2 hP1 hD2 hap hS => ?_)
  have hap := hap.sy
  have hXS := hXS.imp (Q := PS _ _ (T + 1) _ _ _ _ _) (fun x0 x2 x5 x6 x8 x7 x9 x10 K L M h => h)
  refine lv_pop hx hb dL_law_291 rfl ?_
  refine lv_goto (tgt := 1695) hx hb dL_law_292 (by decide) ?_
  exact kk H locs _ _ q7 q8 ⟨_, _, (T + 1), _, _, _, _, _, _, _, q9, hXS, hZS, hP1, hP2, hD1, hD2, hap⟩ hS
set_option maxHeartbeats 4000000 in
set_option maxRecDepth 100000 in
theorem law_c3 {p : Program} {l : Launch} {e : Env} {s : State} {m : MethodId} {below : List Frame} {meth : Method} {c : Code} {b Ln : Nat} {xs : Nat → Int32} (C0 : lw_At p s m meth c b Ln xs) {D : va_G} {cy : Nat → ClassId} {A : Nat → Prop} (hA : ∀ q, s.heap.size ≤ q → A q) (hA2 : ∀ q, A q → s.heap.size ≤ q) (hbA : ¬ A b) (hN : NW s) (hK : va_K D vwCl (tysC cy) s) (hST : STAT A s) {xa za : Nat} {j : Nat} {H : Heap} {locs : List Loc} {cells slots : Nat} {ls : Array Slot} (hj : 6 * j + 6 ≤ Ln) (hLn : Ln ≤ 3072) (hc : cells + 720 ≤ 600000) (hs : slots + 4320 ≤ 7302250) (hLS : LSt D cy A xa za j H) (hS : va_S A s.heap H locs) (hl : lv_has ls 4 [(3, .int (nI (6 * j))), (2, .ref za), (1, .ref xa), (0, .ref b)]) (kk : ∀ (H1 : Heap) (locs1 : List Loc) (c1 s1 : Nat), c1 ≤ cells + 720 → s1 ≤ slots + 4320 → LSt D cy A xa za (j + 1) H1 → va_S A s.heap H1 locs1 → W p l e room_1 s m #[Value.ref b] below meth c H1 locs1 c1 s1 (lw_Z below #[Value.ref b] s) (F0 m 1695 ls [])) : W p l e room_1 s m #[Value.ref b] below meth c H locs cells slots (lw_Z below #[Value.ref b] s) (F0 m 295 ls []) := by
  obtain ⟨hx, hb, hr, hml, hown, hts, hX, hbl, hlocks, hgv⟩ := id C0
  have hg : ∀ w ∈ lw_good, w.before #[Value.ref b] s = true := fun w h => hts w (List.mem_filter.mp h).1
  have hown : s.vm.findClass RL = some m.cls := hown
  obtain ⟨n, n3, T, PK, PT, SX, SY, WH, W1, W2, hT, hXS, hZS, hP1, hP2, hD1, hD2, hap⟩ := hLS
  have q1 := inbN (6 * j + 1) Ln (by omega) (by omega)
  have q2 := inbN (6 * j + 2) Ln (by omega) (by omega)
  have q3 : (cells + 0) ≤ 600000 ∧ (slots + 0) ≤ 7302250 := ⟨by omega, by omega⟩
  have q4 : 0 ≤ T ∧ T ≤ 900000 := ⟨by omega, by omega⟩
  have q5 : ((cells + 0) + 0) ≤ 600000 ∧ ((slots + 0) + 0) ≤ 7302250 := ⟨by omega, by omega⟩
  have q6 : ((cells + 0) + 0) ≤ cells + 720 := by omega
  have q7 : ((slots + 0) + 0) ≤ slots + 4320 := by omega
  have q8 : 0 ≤ (T + 1) ∧ (T + 1) ≤ ((j + 1 : Nat) : Int) := ⟨by omega, by omega⟩
  refine lv_aload_n hx hb dL_law_295 rfl (lv_at hl 2 rfl) ?_
  refine lv_aload_n hx hb dL_law_296 rfl (lv_at hl 3 rfl) ?_
  refine lv_iload_n hx hb dL_law_297 rfl (lv_at hl 0 rfl) ?_
  refine lv_iconst (v := 1) hx hb dL_law_298 (by decide) ?_
  refine lv_iadd hx hb dL_law_299 ?_
  refine lv_topi (fun f1 ef1 => ?_)
  obtain rfl : f1 = nI (6 * j + 1) := ef1.trans (nI_add (6 * j) 1)
  refine va_sld hx hb hX hbl hbA hS q1 dL_law_300 ?_
  refine lv_aload_n hx hb dL_law_301 rfl (lv_at hl 3 rfl) ?_
  refine lv_iload_n hx hb dL_law_302 rfl (lv_at hl 0 rfl) ?_
  refine lv_iconst (v := 2) hx hb dL_law_303 (by decide) ?_
  refine lv_iadd hx hb dL_law_304 ?_
  refine lv_topi (fun f2 ef2 => ?_)
  obtain rfl : f2 = nI (6 * j + 2) := ef2.trans (nI_add (6 * j) 2)
  refine va_sld hx hb hX hbl hbA hS q2 dL_law_305 ?_
  refine cx_unseal C0 hA hN hK hST (xs ((nI (6 * j + 1)) : Int32).toNatClampNeg) (xs ((nI (6 * j + 2)) : Int32).toNatClampNeg) q3 q4 hZS.svhi hXS hP1 hP2 hD1 hap hS hl (fun r3 W1 H locs _hr hXS hP1 hP2 hD1 hap hS => ?_)
  refine lv_pop hx hb dL_law_309 rfl ?_
  refine lv_aload_n hx hb dL_law_310 rfl (lv_at hl 1 rfl) ?_
  refine lv_aload_n hx hb dL_law_311 rfl (lv_at hl 3 rfl) ?_
  refine lv_iload_n hx hb dL_law_312 rfl (lv_at hl 0 rfl) ?_
  refine lv_iconst (v := 1) hx hb dL_law_313 (by decide) ?_
  refine lv_iadd hx hb dL_law_314 ?_
  refine lv_topi (fun f4 ef4 => ?_)
  obtain rfl : f4 = nI (6 * j + 1) := ef4.trans (nI_add (6 * j) 1)
  refine va_sld hx hb hX hbl hbA hS q1 dL_law_315 ?_
  refine lv_aload_n hx hb dL_law_316 rfl (lv_at hl 3 rfl) ?_
  refine lv_iload_n hx hb dL_law_317 rfl (lv_at hl 0 rfl) ?_
  refine lv_iconst (v := 2) hx hb dL_law_318 (by decide) ?_
  refine lv_iadd hx hb dL_law_319 ?_
  refine lv_topi (fun f5 ef5 => ?_)
  obtain rfl : f5 = nI (6 * j + 2) := ef5.trans (nI_add (6 * j) 2)
  refine va_sld hx hb hX hbl hbA hS q2 dL_law_320 ?_
  refine cz_unseal C0 hA hN hK hST (xs ((nI (6 * j + 1)) : Int32).toNatClampNeg) (xs ((nI (6 * j + 2)) : Int32).toNatClampNeg) q5 hZS hP2 hP1 hD2 hap.sy hS hl (fun r6 W2 H locs _hr hZS hP2 hP1 hD2 hap hS => ?_)
  have hap := hap.sy
  have hXS := hXS.imp (Q := PS _ _ (T + 1) _ _ _ _ _) (fun x0 x2 x5 x6 x8 x7 x9 x10 K L M h => h)
  refine lv_pop hx hb dL_law_324 rfl ?_
  refine lv_goto (tgt := 1695) hx hb dL_law_325 (by decide) ?_
  exact kk H locs _ _ q6 q7 ⟨_, _, (T + 1), _, _, _, _, _, _, _, q8, hXS, hZS, hP1, hP2, hD1, hD2, hap⟩ hS
set_option maxHeartbeats 4000000 in
set_option maxRecDepth 100000 in
theorem law_c4 {p : Program} {l : Launch} {e : Env} {s : State} {m : MethodId} {below : List Frame} {meth : Method} {c : Code} {b Ln : Nat} {xs : Nat → Int32} (C0 : lw_At p s m meth c b Ln xs) {D : va_G} {cy : Nat → ClassId} {A : Nat → Prop} (hA : ∀ q, s.heap.size ≤ q → A q) (hA2 : ∀ q, A q → s.heap.size ≤ q) (hbA : ¬ A b) (hN : NW s) (hK : va_K D vwCl (tysC cy) s) (hST : STAT A s) {xa za : Nat} {j : Nat} {H : Heap} {locs : List Loc} {cells slots : Nat} {ls : Array Slot} (hj : 6 * j + 6 ≤ Ln) (hLn : Ln ≤ 3072) (hc : cells + 720 ≤ 600000) (hs : slots + 4320 ≤ 7302250) (hLS : LSt D cy A xa za j H) (hS : va_S A s.heap H locs) (hl : lv_has ls 4 [(3, .int (nI (6 * j))), (2, .ref za), (1, .ref xa), (0, .ref b)]) (kk : ∀ (H1 : Heap) (locs1 : List Loc) (c1 s1 : Nat), c1 ≤ cells + 720 → s1 ≤ slots + 4320 → LSt D cy A xa za (j + 1) H1 → va_S A s.heap H1 locs1 → W p l e room_1 s m #[Value.ref b] below meth c H1 locs1 c1 s1 (lw_Z below #[Value.ref b] s) (F0 m 1695 ls [])) : W p l e room_1 s m #[Value.ref b] below meth c H locs cells slots (lw_Z below #[Value.ref b] s) (F0 m 328 ls []) := by
  obtain ⟨hx, hb, hr, hml, hown, hts, hX, hbl, hlocks, hgv⟩ := id C0
  have hg : ∀ w ∈ lw_good, w.before #[Value.ref b] s = true := fun w h => hts w (List.mem_filter.mp h).1
  have hown : s.vm.findClass RL = some m.cls := hown
  obtain ⟨n, n3, T, PK, PT, SX, SY, WH, W1, W2, hT, hXS, hZS, hP1, hP2, hD1, hD2, hap⟩ := hLS
  have q1 := inbN (6 * j + 1) Ln (by omega) (by omega)
  have q2 := inbN (6 * j + 2) Ln (by omega) (by omega)
  have q3 : (cells + 0) ≤ 600000 ∧ (slots + 0) ≤ 7302250 := ⟨by omega, by omega⟩
  have q4 : 0 ≤ T ∧ T ≤ 900000 := ⟨by omega, by omega⟩
  have q5 : ((cells + 0) + 0) ≤ 600000 ∧ ((slots + 0) + 0) ≤ 7302250 := ⟨by omega, by omega⟩
  have q6 : ((cells + 0) + 0) ≤ cells + 720 := by omega
  have q7 : ((slots + 0) + 0) ≤ slots + 4320 := by omega
  have q8 : 0 ≤ (T + 1) ∧ (T + 1) ≤ ((j + 1 : Nat) : Int) := ⟨by omega, by omega⟩
  refine lv_aload_n hx hb dL_law_328 rfl (lv_at hl 2 rfl) ?_
  refine lv_aload_n hx hb dL_law_329 rfl (lv_at hl 3 rfl) ?_
  refine lv_iload_n hx hb dL_law_330 rfl (lv_at hl 0 rfl) ?_
  refine lv_iconst (v := 1) hx hb dL_law_331 (by decide) ?_
  refine lv_iadd hx hb dL_law_332 ?_
  refine lv_topi (fun f1 ef1 => ?_)
  obtain rfl : f1 = nI (6 * j + 1) := ef1.trans (nI_add (6 * j) 1)
  refine va_sld hx hb hX hbl hbA hS q1 dL_law_333 ?_
  refine lv_aload_n hx hb dL_law_334 rfl (lv_at hl 3 rfl) ?_
  refine lv_iload_n hx hb dL_law_335 rfl (lv_at hl 0 rfl) ?_
  refine lv_iconst (v := 2) hx hb dL_law_336 (by decide) ?_
  refine lv_iadd hx hb dL_law_337 ?_
  refine lv_topi (fun f2 ef2 => ?_)
  obtain rfl : f2 = nI (6 * j + 2) := ef2.trans (nI_add (6 * j) 2)
  refine va_sld hx hb hX hbl hbA hS q2 dL_law_338 ?_
  refine cx_holds C0 hA hN hK hST (xs ((nI (6 * j + 1)) : Int32).toNatClampNeg) (xs ((nI (6 * j + 2)) : Int32).toNatClampNeg) q3 q4 hZS.svhi hXS hP1 hP2 hD1 hap hS hl (fun r3 W1 H locs _hr hXS hP1 hP2 hD1 hap hS => ?_)
  refine lv_pop hx hb dL_law_342 rfl ?_
  refine lv_aload_n hx hb dL_law_343 rfl (lv_at hl 1 rfl) ?_
  refine lv_aload_n hx hb dL_law_344 rfl (lv_at hl 3 rfl) ?_
  refine lv_iload_n hx hb dL_law_345 rfl (lv_at hl 0 rfl) ?_
  refine lv_iconst (v := 1) hx hb dL_law_346 (by decide) ?_
  refine lv_iadd hx hb dL_law_347 ?_
  refine lv_topi (fun f4 ef4 => ?_)
  obtain rfl : f4 = nI (6 * j + 1) := ef4.trans (nI_add (6 * j) 1)
  refine va_sld hx hb hX hbl hbA hS q1 dL_law_348 ?_
  refine lv_aload_n hx hb dL_law_349 rfl (lv_at hl 3 rfl) ?_
  refine lv_iload_n hx hb dL_law_350 rfl (lv_at hl 0 rfl) ?_
  refine lv_iconst (v := 2) hx hb dL_law_351 (by decide) ?_
  refine lv_iadd hx hb dL_law_352 ?_
  refine lv_topi (fun f5 ef5 => ?_)
  obtain rfl : f5 = nI (6 * j + 2) := ef5.trans (nI_add (6 * j) 2)
  refine va_sld hx hb hX hbl hbA hS q2 dL_law_353 ?_
  refine cz_holds C0 hA hN hK hST (xs ((nI (6 * j + 1)) : Int32).toNatClampNeg) (xs ((nI (6 * j + 2)) : Int32).toNatClampNeg) q5 hZS hP2 hP1 hD2 hap.sy hS hl (fun r6 W2 H locs _hr hZS hP2 hP1 hD2 hap hS => ?_)
  have hap := hap.sy
  have hXS := hXS.imp (Q := PS _ _ (T + 1) _ _ _ _ _) (fun x0 x2 x5 x6 x8 x7 x9 x10 K L M h => h)
  refine lv_pop hx hb dL_law_357 rfl ?_
  refine lv_goto (tgt := 1695) hx hb dL_law_358 (by decide) ?_
  exact kk H locs _ _ q6 q7 ⟨_, _, (T + 1), _, _, _, _, _, _, _, q8, hXS, hZS, hP1, hP2, hD1, hD2, hap⟩ hS
set_option maxHeartbeats 4000000 in
set_option maxRecDepth 100000 in
theorem law_c5 {p : Program} {l : Launch} {e : Env} {s : State} {m : MethodId} {below : List Frame} {meth : Method} {c : Code} {b Ln : Nat} {xs : Nat → Int32} (C0 : lw_At p s m meth c b Ln xs) {D : va_G} {cy : Nat → ClassId} {A : Nat → Prop} (hA : ∀ q, s.heap.size ≤ q → A q) (hA2 : ∀ q, A q → s.heap.size ≤ q) (hbA : ¬ A b) (hN : NW s) (hK : va_K D vwCl (tysC cy) s) (hST : STAT A s) {xa za : Nat} {j : Nat} {H : Heap} {locs : List Loc} {cells slots : Nat} {ls : Array Slot} (hj : 6 * j + 6 ≤ Ln) (hLn : Ln ≤ 3072) (hc : cells + 720 ≤ 600000) (hs : slots + 4320 ≤ 7302250) (hLS : LSt D cy A xa za j H) (hS : va_S A s.heap H locs) (hl : lv_has ls 4 [(3, .int (nI (6 * j))), (2, .ref za), (1, .ref xa), (0, .ref b)]) (kk : ∀ (H1 : Heap) (locs1 : List Loc) (c1 s1 : Nat), c1 ≤ cells + 720 → s1 ≤ slots + 4320 → LSt D cy A xa za (j + 1) H1 → va_S A s.heap H1 locs1 → W p l e room_1 s m #[Value.ref b] below meth c H1 locs1 c1 s1 (lw_Z below #[Value.ref b] s) (F0 m 1695 ls [])) : W p l e room_1 s m #[Value.ref b] below meth c H locs cells slots (lw_Z below #[Value.ref b] s) (F0 m 361 ls []) := by
  obtain ⟨hx, hb, hr, hml, hown, hts, hX, hbl, hlocks, hgv⟩ := id C0
  have hg : ∀ w ∈ lw_good, w.before #[Value.ref b] s = true := fun w h => hts w (List.mem_filter.mp h).1
  have hown : s.vm.findClass RL = some m.cls := hown
  obtain ⟨n, n3, T, PK, PT, SX, SY, WH, W1, W2, hT, hXS, hZS, hP1, hP2, hD1, hD2, hap⟩ := hLS
  have q1 := inbN (6 * j + 1) Ln (by omega) (by omega)
  have q2 := inbN (6 * j + 2) Ln (by omega) (by omega)
  have q3 := inbN (6 * j + 3) Ln (by omega) (by omega)
  have q4 := inbN (6 * j + 4) Ln (by omega) (by omega)
  have q5 := inbN (6 * j + 5) Ln (by omega) (by omega)
  have q6 : (cells + 1) ≤ 600000 ∧ (slots + 16) ≤ 7302250 := ⟨by omega, by omega⟩
  have q7 : 0 ≤ T ∧ T ≤ 900000 := ⟨by omega, by omega⟩
  have q8 : ((cells + 1) + 0) ≤ 600000 ∧ ((slots + 16) + 0) ≤ 7302250 := ⟨by omega, by omega⟩
  have q9 : ((cells + 1) + 0) ≤ cells + 720 := by omega
  have q10 : ((slots + 16) + 0) ≤ slots + 4320 := by omega
  have q11 : 0 ≤ (T + 1) ∧ (T + 1) ≤ ((j + 1 : Nat) : Int) := ⟨by omega, by omega⟩
  refine lv_aload_n hx hb dL_law_361 rfl (lv_at hl 2 rfl) ?_
  refine lv_aload_n hx hb dL_law_362 rfl (lv_at hl 3 rfl) ?_
  refine lv_iload_n hx hb dL_law_363 rfl (lv_at hl 0 rfl) ?_
  refine lv_iconst (v := 1) hx hb dL_law_364 (by decide) ?_
  refine lv_iadd hx hb dL_law_365 ?_
  refine lv_topi (fun f1 ef1 => ?_)
  obtain rfl : f1 = nI (6 * j + 1) := ef1.trans (nI_add (6 * j) 1)
  refine va_sld hx hb hX hbl hbA hS q1 dL_law_366 ?_
  refine lv_aload_n hx hb dL_law_367 rfl (lv_at hl 3 rfl) ?_
  refine lv_iload_n hx hb dL_law_368 rfl (lv_at hl 0 rfl) ?_
  refine lv_iconst (v := 2) hx hb dL_law_369 (by decide) ?_
  refine lv_iadd hx hb dL_law_370 ?_
  refine lv_topi (fun f2 ef2 => ?_)
  obtain rfl : f2 = nI (6 * j + 2) := ef2.trans (nI_add (6 * j) 2)
  refine va_sld hx hb hX hbl hbA hS q2 dL_law_371 ?_
  refine lv_aload_n hx hb dL_law_372 rfl (lv_at hl 3 rfl) ?_
  refine lv_iload_n hx hb dL_law_373 rfl (lv_at hl 0 rfl) ?_
  refine lv_iconst (v := 3) hx hb dL_law_374 (by decide) ?_
  refine lv_iadd hx hb dL_law_375 ?_
  refine lv_topi (fun f3 ef3 => ?_)
  obtain rfl : f3 = nI (6 * j + 3) := ef3.trans (nI_add (6 * j) 3)
  refine va_sld hx hb hX hbl hbA hS q3 dL_law_376 ?_
  refine lv_aload_n hx hb dL_law_377 rfl (lv_at hl 3 rfl) ?_
  refine lv_iload_n hx hb dL_law_378 rfl (lv_at hl 0 rfl) ?_
  refine lv_iconst (v := 4) hx hb dL_law_379 (by decide) ?_
  refine lv_iadd hx hb dL_law_380 ?_
  refine lv_topi (fun f4 ef4 => ?_)
  obtain rfl : f4 = nI (6 * j + 4) := ef4.trans (nI_add (6 * j) 4)
  refine va_sld hx hb hX hbl hbA hS q4 dL_law_381 ?_
  refine lv_aload_n hx hb dL_law_382 rfl (lv_at hl 3 rfl) ?_
  refine lv_iload_n hx hb dL_law_383 rfl (lv_at hl 0 rfl) ?_
  refine lv_iconst (v := 5) hx hb dL_law_384 (by decide) ?_
  refine lv_iadd hx hb dL_law_385 ?_
  refine lv_topi (fun f5 ef5 => ?_)
  obtain rfl : f5 = nI (6 * j + 5) := ef5.trans (nI_add (6 * j) 5)
  refine va_sld hx hb hX hbl hbA hS q5 dL_law_386 ?_
  refine lv_if_eq (tgt := 394) hx hb dL_law_387 (by decide) (fun c6 => ?_) (fun c6 => ?_)
  · refine lv_iconst (v := 0) hx hb dL_law_394 (by decide) ?_
    refine cx_join_0 C0 hA hN hK hST (xs ((nI (6 * j + 1)) : Int32).toNatClampNeg) (xs ((nI (6 * j + 2)) : Int32).toNatClampNeg) (xs ((nI (6 * j + 3)) : Int32).toNatClampNeg) (xs ((nI (6 * j + 4)) : Int32).toNatClampNeg) q6 q7 hZS.svhi hXS hP1 hP2 hD1 hap hS hl (fun r7 W1 H locs _hr hXS hP1 hP2 hD1 hap hS => ?_)
    refine lv_pop hx hb dL_law_398 rfl ?_
    refine lv_aload_n hx hb dL_law_399 rfl (lv_at hl 1 rfl) ?_
    refine lv_aload_n hx hb dL_law_400 rfl (lv_at hl 3 rfl) ?_
    refine lv_iload_n hx hb dL_law_401 rfl (lv_at hl 0 rfl) ?_
    refine lv_iconst (v := 1) hx hb dL_law_402 (by decide) ?_
    refine lv_iadd hx hb dL_law_403 ?_
    refine lv_topi (fun f8 ef8 => ?_)
    obtain rfl : f8 = nI (6 * j + 1) := ef8.trans (nI_add (6 * j) 1)
    refine va_sld hx hb hX hbl hbA hS q1 dL_law_404 ?_
    refine lv_aload_n hx hb dL_law_405 rfl (lv_at hl 3 rfl) ?_
    refine lv_iload_n hx hb dL_law_406 rfl (lv_at hl 0 rfl) ?_
    refine lv_iconst (v := 2) hx hb dL_law_407 (by decide) ?_
    refine lv_iadd hx hb dL_law_408 ?_
    refine lv_topi (fun f9 ef9 => ?_)
    obtain rfl : f9 = nI (6 * j + 2) := ef9.trans (nI_add (6 * j) 2)
    refine va_sld hx hb hX hbl hbA hS q2 dL_law_409 ?_
    refine lv_aload_n hx hb dL_law_410 rfl (lv_at hl 3 rfl) ?_
    refine lv_iload_n hx hb dL_law_411 rfl (lv_at hl 0 rfl) ?_
    refine lv_iconst (v := 3) hx hb dL_law_412 (by decide) ?_
    refine lv_iadd hx hb dL_law_413 ?_
    refine lv_topi (fun f10 ef10 => ?_)
    obtain rfl : f10 = nI (6 * j + 3) := ef10.trans (nI_add (6 * j) 3)
    refine va_sld hx hb hX hbl hbA hS q3 dL_law_414 ?_
    refine lv_aload_n hx hb dL_law_415 rfl (lv_at hl 3 rfl) ?_
    refine lv_iload_n hx hb dL_law_416 rfl (lv_at hl 0 rfl) ?_
    refine lv_iconst (v := 4) hx hb dL_law_417 (by decide) ?_
    refine lv_iadd hx hb dL_law_418 ?_
    refine lv_topi (fun f11 ef11 => ?_)
    obtain rfl : f11 = nI (6 * j + 4) := ef11.trans (nI_add (6 * j) 4)
    refine va_sld hx hb hX hbl hbA hS q4 dL_law_419 ?_
    refine lv_aload_n hx hb dL_law_420 rfl (lv_at hl 3 rfl) ?_
    refine lv_iload_n hx hb dL_law_421 rfl (lv_at hl 0 rfl) ?_
    refine lv_iconst (v := 5) hx hb dL_law_422 (by decide) ?_
    refine lv_iadd hx hb dL_law_423 ?_
    refine lv_topi (fun f12 ef12 => ?_)
    obtain rfl : f12 = nI (6 * j + 5) := ef12.trans (nI_add (6 * j) 5)
    refine va_sld hx hb hX hbl hbA hS q5 dL_law_424 ?_
    refine lv_if_eq (tgt := 432) hx hb dL_law_425 (by decide) (fun c13 => ?_) (fun c13 => ?_)
    · refine lv_iconst (v := 0) hx hb dL_law_432 (by decide) ?_
      refine cz_join C0 hA hN hK hST (xs ((nI (6 * j + 1)) : Int32).toNatClampNeg) (xs ((nI (6 * j + 2)) : Int32).toNatClampNeg) (xs ((nI (6 * j + 3)) : Int32).toNatClampNeg) (xs ((nI (6 * j + 4)) : Int32).toNatClampNeg) 0 (Or.inl rfl) q8 hZS hP2 hP1 hD2 hap.sy hS hl (fun r14 W2 H locs _hr hZS hP2 hP1 hD2 hap hS => ?_)
      have hap := hap.sy
      have hXS := hXS.imp (Q := PS _ _ (T + 1) _ _ _ _ _) (fun x0 x2 x5 x6 x8 x7 x9 x10 K L M h => h)
      refine lv_pop hx hb dL_law_436 rfl ?_
      refine lv_goto (tgt := 1695) hx hb dL_law_437 (by decide) ?_
      exact kk H locs _ _ q9 q10 ⟨_, _, (T + 1), _, _, _, _, _, _, _, q11, hXS, hZS, hP1, hP2, hD1, hD2, hap⟩ hS
    · exact absurd c6 c13
  · refine lv_iconst (v := 1) hx hb dL_law_390 (by decide) ?_
    refine lv_goto (tgt := 395) hx hb dL_law_391 (by decide) ?_
    refine cx_join_1 C0 hA hN hK hST (xs ((nI (6 * j + 1)) : Int32).toNatClampNeg) (xs ((nI (6 * j + 2)) : Int32).toNatClampNeg) (xs ((nI (6 * j + 3)) : Int32).toNatClampNeg) (xs ((nI (6 * j + 4)) : Int32).toNatClampNeg) q6 q7 hZS.svhi hXS hP1 hP2 hD1 hap hS hl (fun r15 W1 H locs _hr hXS hP1 hP2 hD1 hap hS => ?_)
    refine lv_pop hx hb dL_law_398 rfl ?_
    refine lv_aload_n hx hb dL_law_399 rfl (lv_at hl 1 rfl) ?_
    refine lv_aload_n hx hb dL_law_400 rfl (lv_at hl 3 rfl) ?_
    refine lv_iload_n hx hb dL_law_401 rfl (lv_at hl 0 rfl) ?_
    refine lv_iconst (v := 1) hx hb dL_law_402 (by decide) ?_
    refine lv_iadd hx hb dL_law_403 ?_
    refine lv_topi (fun f16 ef16 => ?_)
    obtain rfl : f16 = nI (6 * j + 1) := ef16.trans (nI_add (6 * j) 1)
    refine va_sld hx hb hX hbl hbA hS q1 dL_law_404 ?_
    refine lv_aload_n hx hb dL_law_405 rfl (lv_at hl 3 rfl) ?_
    refine lv_iload_n hx hb dL_law_406 rfl (lv_at hl 0 rfl) ?_
    refine lv_iconst (v := 2) hx hb dL_law_407 (by decide) ?_
    refine lv_iadd hx hb dL_law_408 ?_
    refine lv_topi (fun f17 ef17 => ?_)
    obtain rfl : f17 = nI (6 * j + 2) := ef17.trans (nI_add (6 * j) 2)
    refine va_sld hx hb hX hbl hbA hS q2 dL_law_409 ?_
    refine lv_aload_n hx hb dL_law_410 rfl (lv_at hl 3 rfl) ?_
    refine lv_iload_n hx hb dL_law_411 rfl (lv_at hl 0 rfl) ?_
    refine lv_iconst (v := 3) hx hb dL_law_412 (by decide) ?_
    refine lv_iadd hx hb dL_law_413 ?_
    refine lv_topi (fun f18 ef18 => ?_)
    obtain rfl : f18 = nI (6 * j + 3) := ef18.trans (nI_add (6 * j) 3)
    refine va_sld hx hb hX hbl hbA hS q3 dL_law_414 ?_
    refine lv_aload_n hx hb dL_law_415 rfl (lv_at hl 3 rfl) ?_
    refine lv_iload_n hx hb dL_law_416 rfl (lv_at hl 0 rfl) ?_
    refine lv_iconst (v := 4) hx hb dL_law_417 (by decide) ?_
    refine lv_iadd hx hb dL_law_418 ?_
    refine lv_topi (fun f19 ef19 => ?_)
    obtain rfl : f19 = nI (6 * j + 4) := ef19.trans (nI_add (6 * j) 4)
    refine va_sld hx hb hX hbl hbA hS q4 dL_law_419 ?_
    refine lv_aload_n hx hb dL_law_420 rfl (lv_at hl 3 rfl) ?_
    refine lv_iload_n hx hb dL_law_421 rfl (lv_at hl 0 rfl) ?_
    refine lv_iconst (v := 5) hx hb dL_law_422 (by decide) ?_
    refine lv_iadd hx hb dL_law_423 ?_
    refine lv_topi (fun f20 ef20 => ?_)
    obtain rfl : f20 = nI (6 * j + 5) := ef20.trans (nI_add (6 * j) 5)
    refine va_sld hx hb hX hbl hbA hS q5 dL_law_424 ?_
    refine lv_if_eq (tgt := 432) hx hb dL_law_425 (by decide) (fun c21 => ?_) (fun c21 => ?_)
    · exact absurd c21 c6
    · refine lv_iconst (v := 1) hx hb dL_law_428 (by decide) ?_
      refine lv_goto (tgt := 433) hx hb dL_law_429 (by decide) ?_
      refine cz_join C0 hA hN hK hST (xs ((nI (6 * j + 1)) : Int32).toNatClampNeg) (xs ((nI (6 * j + 2)) : Int32).toNatClampNeg) (xs ((nI (6 * j + 3)) : Int32).toNatClampNeg) (xs ((nI (6 * j + 4)) : Int32).toNatClampNeg) 1 (Or.inr rfl) q8 hZS hP2 hP1 hD2 hap.sy hS hl (fun r22 W2 H locs _hr hZS hP2 hP1 hD2 hap hS => ?_)
      have hap := hap.sy
      have hXS := hXS.imp (Q := PS _ _ (T + 1) _ _ _ _ _) (fun x0 x2 x5 x6 x8 x7 x9 x10 K L M h => h)
      refine lv_pop hx hb dL_law_436 rfl ?_
      refine lv_goto (tgt := 1695) hx hb dL_law_437 (by decide) ?_
      exact kk H locs _ _ q9 q10 ⟨_, _, (T + 1), _, _, _, _, _, _, _, q11, hXS, hZS, hP1, hP2, hD1, hD2, hap⟩ hS
set_option maxHeartbeats 4000000 in
set_option maxRecDepth 100000 in
theorem law_c6 {p : Program} {l : Launch} {e : Env} {s : State} {m : MethodId} {below : List Frame} {meth : Method} {c : Code} {b Ln : Nat} {xs : Nat → Int32} (C0 : lw_At p s m meth c b Ln xs) {D : va_G} {cy : Nat → ClassId} {A : Nat → Prop} (hA : ∀ q, s.heap.size ≤ q → A q) (hA2 : ∀ q, A q → s.heap.size ≤ q) (hbA : ¬ A b) (hN : NW s) (hK : va_K D vwCl (tysC cy) s) (hST : STAT A s) {xa za : Nat} {j : Nat} {H : Heap} {locs : List Loc} {cells slots : Nat} {ls : Array Slot} (hj : 6 * j + 6 ≤ Ln) (hLn : Ln ≤ 3072) (hc : cells + 720 ≤ 600000) (hs : slots + 4320 ≤ 7302250) (hLS : LSt D cy A xa za j H) (hS : va_S A s.heap H locs) (hl : lv_has ls 4 [(3, .int (nI (6 * j))), (2, .ref za), (1, .ref xa), (0, .ref b)]) (kk : ∀ (H1 : Heap) (locs1 : List Loc) (c1 s1 : Nat), c1 ≤ cells + 720 → s1 ≤ slots + 4320 → LSt D cy A xa za (j + 1) H1 → va_S A s.heap H1 locs1 → W p l e room_1 s m #[Value.ref b] below meth c H1 locs1 c1 s1 (lw_Z below #[Value.ref b] s) (F0 m 1695 ls [])) : W p l e room_1 s m #[Value.ref b] below meth c H locs cells slots (lw_Z below #[Value.ref b] s) (F0 m 440 ls []) := by
  obtain ⟨hx, hb, hr, hml, hown, hts, hX, hbl, hlocks, hgv⟩ := id C0
  have hg : ∀ w ∈ lw_good, w.before #[Value.ref b] s = true := fun w h => hts w (List.mem_filter.mp h).1
  have hown : s.vm.findClass RL = some m.cls := hown
  obtain ⟨n, n3, T, PK, PT, SX, SY, WH, W1, W2, hT, hXS, hZS, hP1, hP2, hD1, hD2, hap⟩ := hLS
  have q1 := inbN (6 * j + 1) Ln (by omega) (by omega)
  have q2 := inbN (6 * j + 2) Ln (by omega) (by omega)
  have q3 := inbN (6 * j + 3) Ln (by omega) (by omega)
  have q4 := inbN (6 * j + 4) Ln (by omega) (by omega)
  have q5 := inbN (6 * j + 5) Ln (by omega) (by omega)
  have q6 : (cells + 0) ≤ 600000 ∧ (slots + 0) ≤ 7302250 := ⟨by omega, by omega⟩
  have q7 : 0 ≤ T ∧ T ≤ 900000 := ⟨by omega, by omega⟩
  have q8 : ((cells + 0) + 0) ≤ 600000 ∧ ((slots + 0) + 0) ≤ 7302250 := ⟨by omega, by omega⟩
  have q9 : ((cells + 0) + 0) ≤ cells + 720 := by omega
  have q10 : ((slots + 0) + 0) ≤ slots + 4320 := by omega
  have q11 : 0 ≤ (T + 1) ∧ (T + 1) ≤ ((j + 1 : Nat) : Int) := ⟨by omega, by omega⟩
  refine lv_aload_n hx hb dL_law_440 rfl (lv_at hl 2 rfl) ?_
  refine lv_aload_n hx hb dL_law_441 rfl (lv_at hl 3 rfl) ?_
  refine lv_iload_n hx hb dL_law_442 rfl (lv_at hl 0 rfl) ?_
  refine lv_iconst (v := 1) hx hb dL_law_443 (by decide) ?_
  refine lv_iadd hx hb dL_law_444 ?_
  refine lv_topi (fun f1 ef1 => ?_)
  obtain rfl : f1 = nI (6 * j + 1) := ef1.trans (nI_add (6 * j) 1)
  refine va_sld hx hb hX hbl hbA hS q1 dL_law_445 ?_
  refine lv_aload_n hx hb dL_law_446 rfl (lv_at hl 3 rfl) ?_
  refine lv_iload_n hx hb dL_law_447 rfl (lv_at hl 0 rfl) ?_
  refine lv_iconst (v := 2) hx hb dL_law_448 (by decide) ?_
  refine lv_iadd hx hb dL_law_449 ?_
  refine lv_topi (fun f2 ef2 => ?_)
  obtain rfl : f2 = nI (6 * j + 2) := ef2.trans (nI_add (6 * j) 2)
  refine va_sld hx hb hX hbl hbA hS q2 dL_law_450 ?_
  refine lv_aload_n hx hb dL_law_451 rfl (lv_at hl 3 rfl) ?_
  refine lv_iload_n hx hb dL_law_452 rfl (lv_at hl 0 rfl) ?_
  refine lv_iconst (v := 3) hx hb dL_law_453 (by decide) ?_
  refine lv_iadd hx hb dL_law_454 ?_
  refine lv_topi (fun f3 ef3 => ?_)
  obtain rfl : f3 = nI (6 * j + 3) := ef3.trans (nI_add (6 * j) 3)
  refine va_sld hx hb hX hbl hbA hS q3 dL_law_455 ?_
  refine lv_aload_n hx hb dL_law_456 rfl (lv_at hl 3 rfl) ?_
  refine lv_iload_n hx hb dL_law_457 rfl (lv_at hl 0 rfl) ?_
  refine lv_iconst (v := 4) hx hb dL_law_458 (by decide) ?_
  refine lv_iadd hx hb dL_law_459 ?_
  refine lv_topi (fun f4 ef4 => ?_)
  obtain rfl : f4 = nI (6 * j + 4) := ef4.trans (nI_add (6 * j) 4)
  refine va_sld hx hb hX hbl hbA hS q4 dL_law_460 ?_
  refine lv_aload_n hx hb dL_law_461 rfl (lv_at hl 3 rfl) ?_
  refine lv_iload_n hx hb dL_law_462 rfl (lv_at hl 0 rfl) ?_
  refine lv_iconst (v := 5) hx hb dL_law_463 (by decide) ?_
  refine lv_iadd hx hb dL_law_464 ?_
  refine lv_topi (fun f5 ef5 => ?_)
  obtain rfl : f5 = nI (6 * j + 5) := ef5.trans (nI_add (6 * j) 5)
  refine va_sld hx hb hX hbl hbA hS q5 dL_law_465 ?_
  refine cx_leave C0 hA hN hK hST (xs ((nI (6 * j + 1)) : Int32).toNatClampNeg) (xs ((nI (6 * j + 2)) : Int32).toNatClampNeg) (xs ((nI (6 * j + 3)) : Int32).toNatClampNeg) (xs ((nI (6 * j + 4)) : Int32).toNatClampNeg) (xs ((nI (6 * j + 5)) : Int32).toNatClampNeg) q6 q7 hZS.svhi hXS hP1 hP2 hD1 hap hS hl (fun r6 W1 H locs _hr hXS hP1 hP2 hD1 hap hS => ?_)
  refine lv_pop hx hb dL_law_469 rfl ?_
  refine lv_aload_n hx hb dL_law_470 rfl (lv_at hl 1 rfl) ?_
  refine lv_aload_n hx hb dL_law_471 rfl (lv_at hl 3 rfl) ?_
  refine lv_iload_n hx hb dL_law_472 rfl (lv_at hl 0 rfl) ?_
  refine lv_iconst (v := 1) hx hb dL_law_473 (by decide) ?_
  refine lv_iadd hx hb dL_law_474 ?_
  refine lv_topi (fun f7 ef7 => ?_)
  obtain rfl : f7 = nI (6 * j + 1) := ef7.trans (nI_add (6 * j) 1)
  refine va_sld hx hb hX hbl hbA hS q1 dL_law_475 ?_
  refine lv_aload_n hx hb dL_law_476 rfl (lv_at hl 3 rfl) ?_
  refine lv_iload_n hx hb dL_law_477 rfl (lv_at hl 0 rfl) ?_
  refine lv_iconst (v := 2) hx hb dL_law_478 (by decide) ?_
  refine lv_iadd hx hb dL_law_479 ?_
  refine lv_topi (fun f8 ef8 => ?_)
  obtain rfl : f8 = nI (6 * j + 2) := ef8.trans (nI_add (6 * j) 2)
  refine va_sld hx hb hX hbl hbA hS q2 dL_law_480 ?_
  refine lv_aload_n hx hb dL_law_481 rfl (lv_at hl 3 rfl) ?_
  refine lv_iload_n hx hb dL_law_482 rfl (lv_at hl 0 rfl) ?_
  refine lv_iconst (v := 3) hx hb dL_law_483 (by decide) ?_
  refine lv_iadd hx hb dL_law_484 ?_
  refine lv_topi (fun f9 ef9 => ?_)
  obtain rfl : f9 = nI (6 * j + 3) := ef9.trans (nI_add (6 * j) 3)
  refine va_sld hx hb hX hbl hbA hS q3 dL_law_485 ?_
  refine lv_aload_n hx hb dL_law_486 rfl (lv_at hl 3 rfl) ?_
  refine lv_iload_n hx hb dL_law_487 rfl (lv_at hl 0 rfl) ?_
  refine lv_iconst (v := 4) hx hb dL_law_488 (by decide) ?_
  refine lv_iadd hx hb dL_law_489 ?_
  refine lv_topi (fun f10 ef10 => ?_)
  obtain rfl : f10 = nI (6 * j + 4) := ef10.trans (nI_add (6 * j) 4)
  refine va_sld hx hb hX hbl hbA hS q4 dL_law_490 ?_
  refine lv_aload_n hx hb dL_law_491 rfl (lv_at hl 3 rfl) ?_
  refine lv_iload_n hx hb dL_law_492 rfl (lv_at hl 0 rfl) ?_
  refine lv_iconst (v := 5) hx hb dL_law_493 (by decide) ?_
  refine lv_iadd hx hb dL_law_494 ?_
  refine lv_topi (fun f11 ef11 => ?_)
  obtain rfl : f11 = nI (6 * j + 5) := ef11.trans (nI_add (6 * j) 5)
  refine va_sld hx hb hX hbl hbA hS q5 dL_law_495 ?_
  refine cz_leave C0 hA hN hK hST (xs ((nI (6 * j + 1)) : Int32).toNatClampNeg) (xs ((nI (6 * j + 2)) : Int32).toNatClampNeg) (xs ((nI (6 * j + 3)) : Int32).toNatClampNeg) (xs ((nI (6 * j + 4)) : Int32).toNatClampNeg) (xs ((nI (6 * j + 5)) : Int32).toNatClampNeg) q8 hZS hP2 hP1 hD2 hap.sy hS hl (fun r12 W2 H locs _hr hZS hP2 hP1 hD2 hap hS => ?_)
  have hap := hap.sy
  have hXS := hXS.imp (Q := PS _ _ (T + 1) _ _ _ _ _) (fun x0 x2 x5 x6 x8 x7 x9 x10 K L M h => h)
  refine lv_pop hx hb dL_law_499 rfl ?_
  refine lv_goto (tgt := 1695) hx hb dL_law_500 (by decide) ?_
  exact kk H locs _ _ q9 q10 ⟨_, _, (T + 1), _, _, _, _, _, _, _, q11, hXS, hZS, hP1, hP2, hD1, hD2, hap⟩ hS
set_option maxHeartbeats 4000000 in
set_option maxRecDepth 100000 in
theorem law_c7 {p : Program} {l : Launch} {e : Env} {s : State} {m : MethodId} {below : List Frame} {meth : Method} {c : Code} {b Ln : Nat} {xs : Nat → Int32} (C0 : lw_At p s m meth c b Ln xs) {D : va_G} {cy : Nat → ClassId} {A : Nat → Prop} (hA : ∀ q, s.heap.size ≤ q → A q) (hA2 : ∀ q, A q → s.heap.size ≤ q) (hbA : ¬ A b) (hN : NW s) (hK : va_K D vwCl (tysC cy) s) (hST : STAT A s) {xa za : Nat} {j : Nat} {H : Heap} {locs : List Loc} {cells slots : Nat} {ls : Array Slot} (hj : 6 * j + 6 ≤ Ln) (hLn : Ln ≤ 3072) (hc : cells + 720 ≤ 600000) (hs : slots + 4320 ≤ 7302250) (hLS : LSt D cy A xa za j H) (hS : va_S A s.heap H locs) (hl : lv_has ls 4 [(3, .int (nI (6 * j))), (2, .ref za), (1, .ref xa), (0, .ref b)]) (kk : ∀ (H1 : Heap) (locs1 : List Loc) (c1 s1 : Nat), c1 ≤ cells + 720 → s1 ≤ slots + 4320 → LSt D cy A xa za (j + 1) H1 → va_S A s.heap H1 locs1 → W p l e room_1 s m #[Value.ref b] below meth c H1 locs1 c1 s1 (lw_Z below #[Value.ref b] s) (F0 m 1695 ls [])) : W p l e room_1 s m #[Value.ref b] below meth c H locs cells slots (lw_Z below #[Value.ref b] s) (F0 m 503 ls []) := by
  obtain ⟨hx, hb, hr, hml, hown, hts, hX, hbl, hlocks, hgv⟩ := id C0
  have hg : ∀ w ∈ lw_good, w.before #[Value.ref b] s = true := fun w h => hts w (List.mem_filter.mp h).1
  have hown : s.vm.findClass RL = some m.cls := hown
  obtain ⟨n, n3, T, PK, PT, SX, SY, WH, W1, W2, hT, hXS, hZS, hP1, hP2, hD1, hD2, hap⟩ := hLS
  have q1 := inbN (6 * j + 1) Ln (by omega) (by omega)
  have q2 := inbN (6 * j + 2) Ln (by omega) (by omega)
  have q3 := inbN (6 * j + 3) Ln (by omega) (by omega)
  have q4 := inbN (6 * j + 4) Ln (by omega) (by omega)
  have q5 : (cells + 1) ≤ 600000 ∧ (slots + 16) ≤ 7302250 := ⟨by omega, by omega⟩
  have q6 : 0 ≤ T ∧ T ≤ 900000 := ⟨by omega, by omega⟩
  have q7 : ((cells + 1) + 0) ≤ 600000 ∧ ((slots + 16) + 0) ≤ 7302250 := ⟨by omega, by omega⟩
  have q8 : ((cells + 1) + 0) ≤ cells + 720 := by omega
  have q9 : ((slots + 16) + 0) ≤ slots + 4320 := by omega
  have q10 : 0 ≤ (T + 1) ∧ (T + 1) ≤ ((j + 1 : Nat) : Int) := ⟨by omega, by omega⟩
  refine lv_aload_n hx hb dL_law_503 rfl (lv_at hl 2 rfl) ?_
  refine lv_aload_n hx hb dL_law_504 rfl (lv_at hl 3 rfl) ?_
  refine lv_iload_n hx hb dL_law_505 rfl (lv_at hl 0 rfl) ?_
  refine lv_iconst (v := 1) hx hb dL_law_506 (by decide) ?_
  refine lv_iadd hx hb dL_law_507 ?_
  refine lv_topi (fun f1 ef1 => ?_)
  obtain rfl : f1 = nI (6 * j + 1) := ef1.trans (nI_add (6 * j) 1)
  refine va_sld hx hb hX hbl hbA hS q1 dL_law_508 ?_
  refine lv_aload_n hx hb dL_law_509 rfl (lv_at hl 3 rfl) ?_
  refine lv_iload_n hx hb dL_law_510 rfl (lv_at hl 0 rfl) ?_
  refine lv_iconst (v := 2) hx hb dL_law_511 (by decide) ?_
  refine lv_iadd hx hb dL_law_512 ?_
  refine lv_topi (fun f2 ef2 => ?_)
  obtain rfl : f2 = nI (6 * j + 2) := ef2.trans (nI_add (6 * j) 2)
  refine va_sld hx hb hX hbl hbA hS q2 dL_law_513 ?_
  refine lv_aload_n hx hb dL_law_514 rfl (lv_at hl 3 rfl) ?_
  refine lv_iload_n hx hb dL_law_515 rfl (lv_at hl 0 rfl) ?_
  refine lv_iconst (v := 3) hx hb dL_law_516 (by decide) ?_
  refine lv_iadd hx hb dL_law_517 ?_
  refine lv_topi (fun f3 ef3 => ?_)
  obtain rfl : f3 = nI (6 * j + 3) := ef3.trans (nI_add (6 * j) 3)
  refine va_sld hx hb hX hbl hbA hS q3 dL_law_518 ?_
  refine lv_aload_n hx hb dL_law_519 rfl (lv_at hl 3 rfl) ?_
  refine lv_iload_n hx hb dL_law_520 rfl (lv_at hl 0 rfl) ?_
  refine lv_iconst (v := 4) hx hb dL_law_521 (by decide) ?_
  refine lv_iadd hx hb dL_law_522 ?_
  refine lv_topi (fun f4 ef4 => ?_)
  obtain rfl : f4 = nI (6 * j + 4) := ef4.trans (nI_add (6 * j) 4)
  refine va_sld hx hb hX hbl hbA hS q4 dL_law_523 ?_
  refine cx_die C0 hA hN hK hST (xs ((nI (6 * j + 1)) : Int32).toNatClampNeg) (xs ((nI (6 * j + 2)) : Int32).toNatClampNeg) (xs ((nI (6 * j + 3)) : Int32).toNatClampNeg) (xs ((nI (6 * j + 4)) : Int32).toNatClampNeg) q5 q6 hZS.svhi hXS hP1 hP2 hD1 hap hS hl (fun r5 W1 H locs _hr hXS hP1 hP2 hD1 hap hS => ?_)
  refine lv_pop hx hb dL_law_527 rfl ?_
  refine lv_aload_n hx hb dL_law_528 rfl (lv_at hl 1 rfl) ?_
  refine lv_aload_n hx hb dL_law_529 rfl (lv_at hl 3 rfl) ?_
  refine lv_iload_n hx hb dL_law_530 rfl (lv_at hl 0 rfl) ?_
  refine lv_iconst (v := 1) hx hb dL_law_531 (by decide) ?_
  refine lv_iadd hx hb dL_law_532 ?_
  refine lv_topi (fun f6 ef6 => ?_)
  obtain rfl : f6 = nI (6 * j + 1) := ef6.trans (nI_add (6 * j) 1)
  refine va_sld hx hb hX hbl hbA hS q1 dL_law_533 ?_
  refine lv_aload_n hx hb dL_law_534 rfl (lv_at hl 3 rfl) ?_
  refine lv_iload_n hx hb dL_law_535 rfl (lv_at hl 0 rfl) ?_
  refine lv_iconst (v := 2) hx hb dL_law_536 (by decide) ?_
  refine lv_iadd hx hb dL_law_537 ?_
  refine lv_topi (fun f7 ef7 => ?_)
  obtain rfl : f7 = nI (6 * j + 2) := ef7.trans (nI_add (6 * j) 2)
  refine va_sld hx hb hX hbl hbA hS q2 dL_law_538 ?_
  refine lv_aload_n hx hb dL_law_539 rfl (lv_at hl 3 rfl) ?_
  refine lv_iload_n hx hb dL_law_540 rfl (lv_at hl 0 rfl) ?_
  refine lv_iconst (v := 3) hx hb dL_law_541 (by decide) ?_
  refine lv_iadd hx hb dL_law_542 ?_
  refine lv_topi (fun f8 ef8 => ?_)
  obtain rfl : f8 = nI (6 * j + 3) := ef8.trans (nI_add (6 * j) 3)
  refine va_sld hx hb hX hbl hbA hS q3 dL_law_543 ?_
  refine lv_aload_n hx hb dL_law_544 rfl (lv_at hl 3 rfl) ?_
  refine lv_iload_n hx hb dL_law_545 rfl (lv_at hl 0 rfl) ?_
  refine lv_iconst (v := 4) hx hb dL_law_546 (by decide) ?_
  refine lv_iadd hx hb dL_law_547 ?_
  refine lv_topi (fun f9 ef9 => ?_)
  obtain rfl : f9 = nI (6 * j + 4) := ef9.trans (nI_add (6 * j) 4)
  refine va_sld hx hb hX hbl hbA hS q4 dL_law_548 ?_
  refine cz_die C0 hA hN hK hST (xs ((nI (6 * j + 1)) : Int32).toNatClampNeg) (xs ((nI (6 * j + 2)) : Int32).toNatClampNeg) (xs ((nI (6 * j + 3)) : Int32).toNatClampNeg) (xs ((nI (6 * j + 4)) : Int32).toNatClampNeg) q7 hZS hP2 hP1 hD2 hap.sy hS hl (fun r10 W2 H locs _hr hZS hP2 hP1 hD2 hap hS => ?_)
  have hap := hap.sy
  have hXS := hXS.imp (Q := PS _ _ (T + 1) _ _ _ _ _) (fun x0 x2 x5 x6 x8 x7 x9 x10 K L M h => h)
  refine lv_pop hx hb dL_law_552 rfl ?_
  refine lv_goto (tgt := 1695) hx hb dL_law_553 (by decide) ?_
  exact kk H locs _ _ q8 q9 ⟨_, _, (T + 1), _, _, _, _, _, _, _, q10, hXS, hZS, hP1, hP2, hD1, hD2, hap⟩ hS
set_option maxHeartbeats 4000000 in
set_option maxRecDepth 100000 in
theorem law_c8 {p : Program} {l : Launch} {e : Env} {s : State} {m : MethodId} {below : List Frame} {meth : Method} {c : Code} {b Ln : Nat} {xs : Nat → Int32} (C0 : lw_At p s m meth c b Ln xs) {D : va_G} {cy : Nat → ClassId} {A : Nat → Prop} (hA : ∀ q, s.heap.size ≤ q → A q) (hA2 : ∀ q, A q → s.heap.size ≤ q) (hbA : ¬ A b) (hN : NW s) (hK : va_K D vwCl (tysC cy) s) (hST : STAT A s) {xa za : Nat} {j : Nat} {H : Heap} {locs : List Loc} {cells slots : Nat} {ls : Array Slot} (hj : 6 * j + 6 ≤ Ln) (hLn : Ln ≤ 3072) (hc : cells + 720 ≤ 600000) (hs : slots + 4320 ≤ 7302250) (hLS : LSt D cy A xa za j H) (hS : va_S A s.heap H locs) (hl : lv_has ls 4 [(3, .int (nI (6 * j))), (2, .ref za), (1, .ref xa), (0, .ref b)]) (kk : ∀ (H1 : Heap) (locs1 : List Loc) (c1 s1 : Nat), c1 ≤ cells + 720 → s1 ≤ slots + 4320 → LSt D cy A xa za (j + 1) H1 → va_S A s.heap H1 locs1 → W p l e room_1 s m #[Value.ref b] below meth c H1 locs1 c1 s1 (lw_Z below #[Value.ref b] s) (F0 m 1695 ls [])) : W p l e room_1 s m #[Value.ref b] below meth c H locs cells slots (lw_Z below #[Value.ref b] s) (F0 m 556 ls []) := by
  obtain ⟨hx, hb, hr, hml, hown, hts, hX, hbl, hlocks, hgv⟩ := id C0
  have hg : ∀ w ∈ lw_good, w.before #[Value.ref b] s = true := fun w h => hts w (List.mem_filter.mp h).1
  have hown : s.vm.findClass RL = some m.cls := hown
  obtain ⟨n, n3, T, PK, PT, SX, SY, WH, W1, W2, hT, hXS, hZS, hP1, hP2, hD1, hD2, hap⟩ := hLS
  have q1 := inbN (6 * j + 1) Ln (by omega) (by omega)
  have q2 : (cells + 0) ≤ 600000 ∧ (slots + 0) ≤ 7302250 := ⟨by omega, by omega⟩
  have q3 : 0 ≤ T ∧ T ≤ 900000 := ⟨by omega, by omega⟩
  have q4 : ((cells + 0) + 0) ≤ 600000 ∧ ((slots + 0) + 0) ≤ 7302250 := ⟨by omega, by omega⟩
  have q5 : ((cells + 0) + 0) ≤ cells + 720 := by omega
  have q6 : ((slots + 0) + 0) ≤ slots + 4320 := by omega
  have q7 : 0 ≤ (T + 1) ∧ (T + 1) ≤ ((j + 1 : Nat) : Int) := ⟨by omega, by omega⟩
  refine lv_aload_n hx hb dL_law_556 rfl (lv_at hl 2 rfl) ?_
  refine lv_aload_n hx hb dL_law_557 rfl (lv_at hl 3 rfl) ?_
  refine lv_iload_n hx hb dL_law_558 rfl (lv_at hl 0 rfl) ?_
  refine lv_iconst (v := 1) hx hb dL_law_559 (by decide) ?_
  refine lv_iadd hx hb dL_law_560 ?_
  refine lv_topi (fun f1 ef1 => ?_)
  obtain rfl : f1 = nI (6 * j + 1) := ef1.trans (nI_add (6 * j) 1)
  refine va_sld hx hb hX hbl hbA hS q1 dL_law_561 ?_
  refine cx_circle C0 hA hN hK hST (xs ((nI (6 * j + 1)) : Int32).toNatClampNeg) q2 q3 hZS.svhi hXS hP1 hP2 hD1 hap hS hl (fun r2 W1 H locs hXS hP1 hP2 hD1 hap hS => ?_)
  refine lv_pop hx hb dL_law_565 rfl ?_
  refine lv_aload_n hx hb dL_law_566 rfl (lv_at hl 1 rfl) ?_
  refine lv_aload_n hx hb dL_law_567 rfl (lv_at hl 3 rfl) ?_
  refine lv_iload_n hx hb dL_law_568 rfl (lv_at hl 0 rfl) ?_
  refine lv_iconst (v := 1) hx hb dL_law_569 (by decide) ?_
  refine lv_iadd hx hb dL_law_570 ?_
  refine lv_topi (fun f3 ef3 => ?_)
  obtain rfl : f3 = nI (6 * j + 1) := ef3.trans (nI_add (6 * j) 1)
  refine va_sld hx hb hX hbl hbA hS q1 dL_law_571 ?_
  refine cz_circle C0 hA hN hK hST (xs ((nI (6 * j + 1)) : Int32).toNatClampNeg) q4 hZS hP2 hP1 hD2 hap.sy hS hl (fun r4 W2 H locs hZS hP2 hP1 hD2 hap hS => ?_)
  have hap := hap.sy
  have hXS := hXS.imp (Q := PS _ _ (T + 1) _ _ _ _ _) (fun x0 x2 x5 x6 x8 x7 x9 x10 K L M h => h)
  refine lv_pop hx hb dL_law_575 rfl ?_
  refine lv_goto (tgt := 1695) hx hb dL_law_576 (by decide) ?_
  exact kk H locs _ _ q5 q6 ⟨_, _, (T + 1), _, _, _, _, _, _, _, q7, hXS, hZS, hP1, hP2, hD1, hD2, hap⟩ hS
set_option maxHeartbeats 4000000 in
set_option maxRecDepth 100000 in
theorem law_c9 {p : Program} {l : Launch} {e : Env} {s : State} {m : MethodId} {below : List Frame} {meth : Method} {c : Code} {b Ln : Nat} {xs : Nat → Int32} (C0 : lw_At p s m meth c b Ln xs) {D : va_G} {cy : Nat → ClassId} {A : Nat → Prop} (hA : ∀ q, s.heap.size ≤ q → A q) (hA2 : ∀ q, A q → s.heap.size ≤ q) (hbA : ¬ A b) (hN : NW s) (hK : va_K D vwCl (tysC cy) s) (hST : STAT A s) {xa za : Nat} {j : Nat} {H : Heap} {locs : List Loc} {cells slots : Nat} {ls : Array Slot} (hj : 6 * j + 6 ≤ Ln) (hLn : Ln ≤ 3072) (hc : cells + 720 ≤ 600000) (hs : slots + 4320 ≤ 7302250) (hLS : LSt D cy A xa za j H) (hS : va_S A s.heap H locs) (hl : lv_has ls 4 [(3, .int (nI (6 * j))), (2, .ref za), (1, .ref xa), (0, .ref b)]) (kk : ∀ (H1 : Heap) (locs1 : List Loc) (c1 s1 : Nat), c1 ≤ cells + 720 → s1 ≤ slots + 4320 → LSt D cy A xa za (j + 1) H1 → va_S A s.heap H1 locs1 → W p l e room_1 s m #[Value.ref b] below meth c H1 locs1 c1 s1 (lw_Z below #[Value.ref b] s) (F0 m 1695 ls [])) : W p l e room_1 s m #[Value.ref b] below meth c H locs cells slots (lw_Z below #[Value.ref b] s) (F0 m 579 ls []) := by
  obtain ⟨hx, hb, hr, hml, hown, hts, hX, hbl, hlocks, hgv⟩ := id C0
  have hg : ∀ w ∈ lw_good, w.before #[Value.ref b] s = true := fun w h => hts w (List.mem_filter.mp h).1
  have hown : s.vm.findClass RL = some m.cls := hown
  obtain ⟨n, n3, T, PK, PT, SX, SY, WH, W1, W2, hT, hXS, hZS, hP1, hP2, hD1, hD2, hap⟩ := hLS
  have q1 := inbN (6 * j + 1) Ln (by omega) (by omega)
  have q2 := inbN (6 * j + 2) Ln (by omega) (by omega)
  have q3 : (cells + 2) ≤ 600000 ∧ (slots + 27) ≤ 7302250 := ⟨by omega, by omega⟩
  have q4 : 0 ≤ T ∧ T ≤ 900000 := ⟨by omega, by omega⟩
  have q5 : ((cells + 2) + 0) ≤ 600000 ∧ ((slots + 27) + 0) ≤ 7302250 := ⟨by omega, by omega⟩
  have q6 : ((cells + 2) + 0) ≤ cells + 720 := by omega
  have q7 : ((slots + 27) + 0) ≤ slots + 4320 := by omega
  have q8 : 0 ≤ (T + 1) ∧ (T + 1) ≤ ((j + 1 : Nat) : Int) := ⟨by omega, by omega⟩
  refine lv_aload_n hx hb dL_law_579 rfl (lv_at hl 2 rfl) ?_
  refine lv_aload_n hx hb dL_law_580 rfl (lv_at hl 3 rfl) ?_
  refine lv_iload_n hx hb dL_law_581 rfl (lv_at hl 0 rfl) ?_
  refine lv_iconst (v := 1) hx hb dL_law_582 (by decide) ?_
  refine lv_iadd hx hb dL_law_583 ?_
  refine lv_topi (fun f1 ef1 => ?_)
  obtain rfl : f1 = nI (6 * j + 1) := ef1.trans (nI_add (6 * j) 1)
  refine va_sld hx hb hX hbl hbA hS q1 dL_law_584 ?_
  refine lv_aload_n hx hb dL_law_585 rfl (lv_at hl 3 rfl) ?_
  refine lv_iload_n hx hb dL_law_586 rfl (lv_at hl 0 rfl) ?_
  refine lv_iconst (v := 2) hx hb dL_law_587 (by decide) ?_
  refine lv_iadd hx hb dL_law_588 ?_
  refine lv_topi (fun f2 ef2 => ?_)
  obtain rfl : f2 = nI (6 * j + 2) := ef2.trans (nI_add (6 * j) 2)
  refine va_sld hx hb hX hbl hbA hS q2 dL_law_589 ?_
  refine cx_rule C0 hA hN hK hST (xs ((nI (6 * j + 1)) : Int32).toNatClampNeg) (xs ((nI (6 * j + 2)) : Int32).toNatClampNeg) q3 q4 hZS.svhi hXS hP1 hP2 hD1 hap hS hl (fun r3 W1 H locs _hr hXS hP1 hP2 hD1 hap hS => ?_)
  refine lv_pop hx hb dL_law_593 rfl ?_
  refine lv_aload_n hx hb dL_law_594 rfl (lv_at hl 1 rfl) ?_
  refine lv_aload_n hx hb dL_law_595 rfl (lv_at hl 3 rfl) ?_
  refine lv_iload_n hx hb dL_law_596 rfl (lv_at hl 0 rfl) ?_
  refine lv_iconst (v := 1) hx hb dL_law_597 (by decide) ?_
  refine lv_iadd hx hb dL_law_598 ?_
  refine lv_topi (fun f4 ef4 => ?_)
  obtain rfl : f4 = nI (6 * j + 1) := ef4.trans (nI_add (6 * j) 1)
  refine va_sld hx hb hX hbl hbA hS q1 dL_law_599 ?_
  refine lv_aload_n hx hb dL_law_600 rfl (lv_at hl 3 rfl) ?_
  refine lv_iload_n hx hb dL_law_601 rfl (lv_at hl 0 rfl) ?_
  refine lv_iconst (v := 2) hx hb dL_law_602 (by decide) ?_
  refine lv_iadd hx hb dL_law_603 ?_
  refine lv_topi (fun f5 ef5 => ?_)
  obtain rfl : f5 = nI (6 * j + 2) := ef5.trans (nI_add (6 * j) 2)
  refine va_sld hx hb hX hbl hbA hS q2 dL_law_604 ?_
  refine cz_rule C0 hA hN hK hST (xs ((nI (6 * j + 1)) : Int32).toNatClampNeg) (xs ((nI (6 * j + 2)) : Int32).toNatClampNeg) q5 hZS hP2 hP1 hD2 hap.sy hS hl (fun r6 W2 H locs _hr hZS hP2 hP1 hD2 hap hS => ?_)
  have hap := hap.sy
  obtain ⟨g9, hc9, hZS⟩ := hZS
  have hXS := hXS.imp (Q := PS _ _ (T + 1) _ _ _ _ _) (fun x0 x2 x5 x6 x8 x7 x9 x10 K L M h => ⟨h.1 g9 hc9, h.2⟩)
  refine lv_pop hx hb dL_law_608 rfl ?_
  refine lv_goto (tgt := 1695) hx hb dL_law_609 (by decide) ?_
  exact kk H locs _ _ q6 q7 ⟨_, _, (T + 1), _, _, _, _, _, _, _, q8, hXS, hZS, hP1, hP2, hD1, hD2, hap⟩ hS
set_option maxHeartbeats 4000000 in
set_option maxRecDepth 100000 in
theorem law_c10 {p : Program} {l : Launch} {e : Env} {s : State} {m : MethodId} {below : List Frame} {meth : Method} {c : Code} {b Ln : Nat} {xs : Nat → Int32} (C0 : lw_At p s m meth c b Ln xs) {D : va_G} {cy : Nat → ClassId} {A : Nat → Prop} (hA : ∀ q, s.heap.size ≤ q → A q) (hA2 : ∀ q, A q → s.heap.size ≤ q) (hbA : ¬ A b) (hN : NW s) (hK : va_K D vwCl (tysC cy) s) (hST : STAT A s) {xa za : Nat} {j : Nat} {H : Heap} {locs : List Loc} {cells slots : Nat} {ls : Array Slot} (hj : 6 * j + 6 ≤ Ln) (hLn : Ln ≤ 3072) (hc : cells + 720 ≤ 600000) (hs : slots + 4320 ≤ 7302250) (hLS : LSt D cy A xa za j H) (hS : va_S A s.heap H locs) (hl : lv_has ls 4 [(3, .int (nI (6 * j))), (2, .ref za), (1, .ref xa), (0, .ref b)]) (kk : ∀ (H1 : Heap) (locs1 : List Loc) (c1 s1 : Nat), c1 ≤ cells + 720 → s1 ≤ slots + 4320 → LSt D cy A xa za (j + 1) H1 → va_S A s.heap H1 locs1 → W p l e room_1 s m #[Value.ref b] below meth c H1 locs1 c1 s1 (lw_Z below #[Value.ref b] s) (F0 m 1695 ls [])) : W p l e room_1 s m #[Value.ref b] below meth c H locs cells slots (lw_Z below #[Value.ref b] s) (F0 m 612 ls []) := by
  obtain ⟨hx, hb, hr, hml, hown, hts, hX, hbl, hlocks, hgv⟩ := id C0
  have hg : ∀ w ∈ lw_good, w.before #[Value.ref b] s = true := fun w h => hts w (List.mem_filter.mp h).1
  have hown : s.vm.findClass RL = some m.cls := hown
  obtain ⟨n, n3, T, PK, PT, SX, SY, WH, W1, W2, hT, hXS, hZS, hP1, hP2, hD1, hD2, hap⟩ := hLS
  have q1 := inbN (6 * j + 1) Ln (by omega) (by omega)
  have q2 := inbN (6 * j + 2) Ln (by omega) (by omega)
  have q3 := inbN (6 * j + 3) Ln (by omega) (by omega)
  have q4 := inbN (6 * j + 4) Ln (by omega) (by omega)
  have q5 : (cells + 0) ≤ 600000 ∧ (slots + 0) ≤ 7302250 := ⟨by omega, by omega⟩
  have q6 : 0 ≤ T ∧ T ≤ 900000 := ⟨by omega, by omega⟩
  have q7 : ((cells + 0) + 0) ≤ 600000 ∧ ((slots + 0) + 0) ≤ 7302250 := ⟨by omega, by omega⟩
  have q8 : ((cells + 0) + 0) ≤ cells + 720 := by omega
  have q9 : ((slots + 0) + 0) ≤ slots + 4320 := by omega
  have q10 : 0 ≤ (T + 1) ∧ (T + 1) ≤ ((j + 1 : Nat) : Int) := ⟨by omega, by omega⟩
  refine lv_aload_n hx hb dL_law_612 rfl (lv_at hl 2 rfl) ?_
  refine lv_aload_n hx hb dL_law_613 rfl (lv_at hl 3 rfl) ?_
  refine lv_iload_n hx hb dL_law_614 rfl (lv_at hl 0 rfl) ?_
  refine lv_iconst (v := 1) hx hb dL_law_615 (by decide) ?_
  refine lv_iadd hx hb dL_law_616 ?_
  refine lv_topi (fun f1 ef1 => ?_)
  obtain rfl : f1 = nI (6 * j + 1) := ef1.trans (nI_add (6 * j) 1)
  refine va_sld hx hb hX hbl hbA hS q1 dL_law_617 ?_
  refine lv_aload_n hx hb dL_law_618 rfl (lv_at hl 3 rfl) ?_
  refine lv_iload_n hx hb dL_law_619 rfl (lv_at hl 0 rfl) ?_
  refine lv_iconst (v := 2) hx hb dL_law_620 (by decide) ?_
  refine lv_iadd hx hb dL_law_621 ?_
  refine lv_topi (fun f2 ef2 => ?_)
  obtain rfl : f2 = nI (6 * j + 2) := ef2.trans (nI_add (6 * j) 2)
  refine va_sld hx hb hX hbl hbA hS q2 dL_law_622 ?_
  refine lv_aload_n hx hb dL_law_623 rfl (lv_at hl 3 rfl) ?_
  refine lv_iload_n hx hb dL_law_624 rfl (lv_at hl 0 rfl) ?_
  refine lv_iconst (v := 3) hx hb dL_law_625 (by decide) ?_
  refine lv_iadd hx hb dL_law_626 ?_
  refine lv_topi (fun f3 ef3 => ?_)
  obtain rfl : f3 = nI (6 * j + 3) := ef3.trans (nI_add (6 * j) 3)
  refine va_sld hx hb hX hbl hbA hS q3 dL_law_627 ?_
  refine lv_aload_n hx hb dL_law_628 rfl (lv_at hl 3 rfl) ?_
  refine lv_iload_n hx hb dL_law_629 rfl (lv_at hl 0 rfl) ?_
  refine lv_iconst (v := 4) hx hb dL_law_630 (by decide) ?_
  refine lv_iadd hx hb dL_law_631 ?_
  refine lv_topi (fun f4 ef4 => ?_)
  obtain rfl : f4 = nI (6 * j + 4) := ef4.trans (nI_add (6 * j) 4)
  refine va_sld hx hb hX hbl hbA hS q4 dL_law_632 ?_
  refine cx_term C0 hA hN hK hST (xs ((nI (6 * j + 1)) : Int32).toNatClampNeg) (xs ((nI (6 * j + 2)) : Int32).toNatClampNeg) (xs ((nI (6 * j + 3)) : Int32).toNatClampNeg) (xs ((nI (6 * j + 4)) : Int32).toNatClampNeg) q5 q6 hZS.svhi hXS hP1 hP2 hD1 hap hS hl (fun r5 W1 H locs _hr hXS hP1 hP2 hD1 hap hS => ?_)
  refine lv_pop hx hb dL_law_636 rfl ?_
  refine lv_aload_n hx hb dL_law_637 rfl (lv_at hl 1 rfl) ?_
  refine lv_aload_n hx hb dL_law_638 rfl (lv_at hl 3 rfl) ?_
  refine lv_iload_n hx hb dL_law_639 rfl (lv_at hl 0 rfl) ?_
  refine lv_iconst (v := 1) hx hb dL_law_640 (by decide) ?_
  refine lv_iadd hx hb dL_law_641 ?_
  refine lv_topi (fun f6 ef6 => ?_)
  obtain rfl : f6 = nI (6 * j + 1) := ef6.trans (nI_add (6 * j) 1)
  refine va_sld hx hb hX hbl hbA hS q1 dL_law_642 ?_
  refine lv_aload_n hx hb dL_law_643 rfl (lv_at hl 3 rfl) ?_
  refine lv_iload_n hx hb dL_law_644 rfl (lv_at hl 0 rfl) ?_
  refine lv_iconst (v := 2) hx hb dL_law_645 (by decide) ?_
  refine lv_iadd hx hb dL_law_646 ?_
  refine lv_topi (fun f7 ef7 => ?_)
  obtain rfl : f7 = nI (6 * j + 2) := ef7.trans (nI_add (6 * j) 2)
  refine va_sld hx hb hX hbl hbA hS q2 dL_law_647 ?_
  refine lv_aload_n hx hb dL_law_648 rfl (lv_at hl 3 rfl) ?_
  refine lv_iload_n hx hb dL_law_649 rfl (lv_at hl 0 rfl) ?_
  refine lv_iconst (v := 3) hx hb dL_law_650 (by decide) ?_
  refine lv_iadd hx hb dL_law_651 ?_
  refine lv_topi (fun f8 ef8 => ?_)
  obtain rfl : f8 = nI (6 * j + 3) := ef8.trans (nI_add (6 * j) 3)
  refine va_sld hx hb hX hbl hbA hS q3 dL_law_652 ?_
  refine lv_aload_n hx hb dL_law_653 rfl (lv_at hl 3 rfl) ?_
  refine lv_iload_n hx hb dL_law_654 rfl (lv_at hl 0 rfl) ?_
  refine lv_iconst (v := 4) hx hb dL_law_655 (by decide) ?_
  refine lv_iadd hx hb dL_law_656 ?_
  refine lv_topi (fun f9 ef9 => ?_)
  obtain rfl : f9 = nI (6 * j + 4) := ef9.trans (nI_add (6 * j) 4)
  refine va_sld hx hb hX hbl hbA hS q4 dL_law_657 ?_
  refine cz_term C0 hA hN hK hST (xs ((nI (6 * j + 1)) : Int32).toNatClampNeg) (xs ((nI (6 * j + 2)) : Int32).toNatClampNeg) (xs ((nI (6 * j + 3)) : Int32).toNatClampNeg) (xs ((nI (6 * j + 4)) : Int32).toNatClampNeg) q7 hZS hP2 hP1 hD2 hap.sy hS hl (fun r10 W2 H locs _hr hZS hP2 hP1 hD2 hap hS => ?_)
  have hap := hap.sy
  have hXS := hXS.imp (Q := PS _ _ (T + 1) _ _ _ _ _) (fun x0 x2 x5 x6 x8 x7 x9 x10 K L M h => h)
  refine lv_pop hx hb dL_law_661 rfl ?_
  refine lv_goto (tgt := 1695) hx hb dL_law_662 (by decide) ?_
  exact kk H locs _ _ q8 q9 ⟨_, _, (T + 1), _, _, _, _, _, _, _, q10, hXS, hZS, hP1, hP2, hD1, hD2, hap⟩ hS
set_option maxHeartbeats 4000000 in
set_option maxRecDepth 100000 in
theorem law_c11 {p : Program} {l : Launch} {e : Env} {s : State} {m : MethodId} {below : List Frame} {meth : Method} {c : Code} {b Ln : Nat} {xs : Nat → Int32} (C0 : lw_At p s m meth c b Ln xs) {D : va_G} {cy : Nat → ClassId} {A : Nat → Prop} (hA : ∀ q, s.heap.size ≤ q → A q) (hA2 : ∀ q, A q → s.heap.size ≤ q) (hbA : ¬ A b) (hN : NW s) (hK : va_K D vwCl (tysC cy) s) (hST : STAT A s) {xa za : Nat} {j : Nat} {H : Heap} {locs : List Loc} {cells slots : Nat} {ls : Array Slot} (hj : 6 * j + 6 ≤ Ln) (hLn : Ln ≤ 3072) (hc : cells + 720 ≤ 600000) (hs : slots + 4320 ≤ 7302250) (hLS : LSt D cy A xa za j H) (hS : va_S A s.heap H locs) (hl : lv_has ls 4 [(3, .int (nI (6 * j))), (2, .ref za), (1, .ref xa), (0, .ref b)]) (kk : ∀ (H1 : Heap) (locs1 : List Loc) (c1 s1 : Nat), c1 ≤ cells + 720 → s1 ≤ slots + 4320 → LSt D cy A xa za (j + 1) H1 → va_S A s.heap H1 locs1 → W p l e room_1 s m #[Value.ref b] below meth c H1 locs1 c1 s1 (lw_Z below #[Value.ref b] s) (F0 m 1695 ls [])) : W p l e room_1 s m #[Value.ref b] below meth c H locs cells slots (lw_Z below #[Value.ref b] s) (F0 m 665 ls []) := by
  obtain ⟨hx, hb, hr, hml, hown, hts, hX, hbl, hlocks, hgv⟩ := id C0
  have hg : ∀ w ∈ lw_good, w.before #[Value.ref b] s = true := fun w h => hts w (List.mem_filter.mp h).1
  have hown : s.vm.findClass RL = some m.cls := hown
  obtain ⟨n, n3, T, PK, PT, SX, SY, WH, W1, W2, hT, hXS, hZS, hP1, hP2, hD1, hD2, hap⟩ := hLS
  have q1 := inbN (6 * j + 1) Ln (by omega) (by omega)
  have q2 := inbN (6 * j + 2) Ln (by omega) (by omega)
  have q3 := inbN (6 * j + 3) Ln (by omega) (by omega)
  have q4 := inbN (6 * j + 4) Ln (by omega) (by omega)
  have q5 : (cells + 2) ≤ 600000 ∧ (slots + 9) ≤ 7302250 := ⟨by omega, by omega⟩
  have q6 : 0 ≤ T ∧ T ≤ 900000 := ⟨by omega, by omega⟩
  have q7 : ((cells + 2) + 0) ≤ 600000 ∧ ((slots + 9) + 0) ≤ 7302250 := ⟨by omega, by omega⟩
  have q8 : ((cells + 2) + 0) ≤ cells + 720 := by omega
  have q9 : ((slots + 9) + 0) ≤ slots + 4320 := by omega
  have q10 : 0 ≤ (T + 1) ∧ (T + 1) ≤ ((j + 1 : Nat) : Int) := ⟨by omega, by omega⟩
  refine lv_aload_n hx hb dL_law_665 rfl (lv_at hl 2 rfl) ?_
  refine lv_aload_n hx hb dL_law_666 rfl (lv_at hl 3 rfl) ?_
  refine lv_iload_n hx hb dL_law_667 rfl (lv_at hl 0 rfl) ?_
  refine lv_iconst (v := 1) hx hb dL_law_668 (by decide) ?_
  refine lv_iadd hx hb dL_law_669 ?_
  refine lv_topi (fun f1 ef1 => ?_)
  obtain rfl : f1 = nI (6 * j + 1) := ef1.trans (nI_add (6 * j) 1)
  refine va_sld hx hb hX hbl hbA hS q1 dL_law_670 ?_
  refine lv_aload_n hx hb dL_law_671 rfl (lv_at hl 3 rfl) ?_
  refine lv_iload_n hx hb dL_law_672 rfl (lv_at hl 0 rfl) ?_
  refine lv_iconst (v := 2) hx hb dL_law_673 (by decide) ?_
  refine lv_iadd hx hb dL_law_674 ?_
  refine lv_topi (fun f2 ef2 => ?_)
  obtain rfl : f2 = nI (6 * j + 2) := ef2.trans (nI_add (6 * j) 2)
  refine va_sld hx hb hX hbl hbA hS q2 dL_law_675 ?_
  refine lv_aload_n hx hb dL_law_676 rfl (lv_at hl 3 rfl) ?_
  refine lv_iload_n hx hb dL_law_677 rfl (lv_at hl 0 rfl) ?_
  refine lv_iconst (v := 3) hx hb dL_law_678 (by decide) ?_
  refine lv_iadd hx hb dL_law_679 ?_
  refine lv_topi (fun f3 ef3 => ?_)
  obtain rfl : f3 = nI (6 * j + 3) := ef3.trans (nI_add (6 * j) 3)
  refine va_sld hx hb hX hbl hbA hS q3 dL_law_680 ?_
  refine lv_aload_n hx hb dL_law_681 rfl (lv_at hl 3 rfl) ?_
  refine lv_iload_n hx hb dL_law_682 rfl (lv_at hl 0 rfl) ?_
  refine lv_iconst (v := 4) hx hb dL_law_683 (by decide) ?_
  refine lv_iadd hx hb dL_law_684 ?_
  refine lv_topi (fun f4 ef4 => ?_)
  obtain rfl : f4 = nI (6 * j + 4) := ef4.trans (nI_add (6 * j) 4)
  refine va_sld hx hb hX hbl hbA hS q4 dL_law_685 ?_
  refine cx_leaf C0 hA hN hK hST (xs ((nI (6 * j + 1)) : Int32).toNatClampNeg) (xs ((nI (6 * j + 2)) : Int32).toNatClampNeg) (xs ((nI (6 * j + 3)) : Int32).toNatClampNeg) (xs ((nI (6 * j + 4)) : Int32).toNatClampNeg) q5 q6 hZS.svhi hXS hP1 hP2 hD1 hap hS hl (fun r5 W1 H locs _hr hXS hP1 hP2 hD1 hap hS => ?_)
  refine lv_pop hx hb dL_law_689 rfl ?_
  refine lv_aload_n hx hb dL_law_690 rfl (lv_at hl 1 rfl) ?_
  refine lv_aload_n hx hb dL_law_691 rfl (lv_at hl 3 rfl) ?_
  refine lv_iload_n hx hb dL_law_692 rfl (lv_at hl 0 rfl) ?_
  refine lv_iconst (v := 1) hx hb dL_law_693 (by decide) ?_
  refine lv_iadd hx hb dL_law_694 ?_
  refine lv_topi (fun f6 ef6 => ?_)
  obtain rfl : f6 = nI (6 * j + 1) := ef6.trans (nI_add (6 * j) 1)
  refine va_sld hx hb hX hbl hbA hS q1 dL_law_695 ?_
  refine lv_aload_n hx hb dL_law_696 rfl (lv_at hl 3 rfl) ?_
  refine lv_iload_n hx hb dL_law_697 rfl (lv_at hl 0 rfl) ?_
  refine lv_iconst (v := 2) hx hb dL_law_698 (by decide) ?_
  refine lv_iadd hx hb dL_law_699 ?_
  refine lv_topi (fun f7 ef7 => ?_)
  obtain rfl : f7 = nI (6 * j + 2) := ef7.trans (nI_add (6 * j) 2)
  refine va_sld hx hb hX hbl hbA hS q2 dL_law_700 ?_
  refine lv_aload_n hx hb dL_law_701 rfl (lv_at hl 3 rfl) ?_
  refine lv_iload_n hx hb dL_law_702 rfl (lv_at hl 0 rfl) ?_
  refine lv_iconst (v := 3) hx hb dL_law_703 (by decide) ?_
  refine lv_iadd hx hb dL_law_704 ?_
  refine lv_topi (fun f8 ef8 => ?_)
  obtain rfl : f8 = nI (6 * j + 3) := ef8.trans (nI_add (6 * j) 3)
  refine va_sld hx hb hX hbl hbA hS q3 dL_law_705 ?_
  refine lv_aload_n hx hb dL_law_706 rfl (lv_at hl 3 rfl) ?_
  refine lv_iload_n hx hb dL_law_707 rfl (lv_at hl 0 rfl) ?_
  refine lv_iconst (v := 4) hx hb dL_law_708 (by decide) ?_
  refine lv_iadd hx hb dL_law_709 ?_
  refine lv_topi (fun f9 ef9 => ?_)
  obtain rfl : f9 = nI (6 * j + 4) := ef9.trans (nI_add (6 * j) 4)
  refine va_sld hx hb hX hbl hbA hS q4 dL_law_710 ?_
  refine cz_leaf C0 hA hN hK hST (xs ((nI (6 * j + 1)) : Int32).toNatClampNeg) (xs ((nI (6 * j + 2)) : Int32).toNatClampNeg) (xs ((nI (6 * j + 3)) : Int32).toNatClampNeg) (xs ((nI (6 * j + 4)) : Int32).toNatClampNeg) q7 hZS hP2 hP1 hD2 hap.sy hS hl (fun r10 W2 H locs _hr hZS hP2 hP1 hD2 hap hS => ?_)
  have hap := hap.sy
  have hXS := hXS.imp (Q := PS _ _ (T + 1) _ _ _ _ _) (fun x0 x2 x5 x6 x8 x7 x9 x10 K L M h => h)
  refine lv_pop hx hb dL_law_714 rfl ?_
  refine lv_goto (tgt := 1695) hx hb dL_law_715 (by decide) ?_
  exact kk H locs _ _ q8 q9 ⟨_, _, (T + 1), _, _, _, _, _, _, _, q10, hXS, hZS, hP1, hP2, hD1, hD2, hap⟩ hS
set_option maxHeartbeats 4000000 in
set_option maxRecDepth 100000 in
theorem law_c12 {p : Program} {l : Launch} {e : Env} {s : State} {m : MethodId} {below : List Frame} {meth : Method} {c : Code} {b Ln : Nat} {xs : Nat → Int32} (C0 : lw_At p s m meth c b Ln xs) {D : va_G} {cy : Nat → ClassId} {A : Nat → Prop} (hA : ∀ q, s.heap.size ≤ q → A q) (hA2 : ∀ q, A q → s.heap.size ≤ q) (hbA : ¬ A b) (hN : NW s) (hK : va_K D vwCl (tysC cy) s) (hST : STAT A s) {xa za : Nat} {j : Nat} {H : Heap} {locs : List Loc} {cells slots : Nat} {ls : Array Slot} (hj : 6 * j + 6 ≤ Ln) (hLn : Ln ≤ 3072) (hc : cells + 720 ≤ 600000) (hs : slots + 4320 ≤ 7302250) (hLS : LSt D cy A xa za j H) (hS : va_S A s.heap H locs) (hl : lv_has ls 4 [(3, .int (nI (6 * j))), (2, .ref za), (1, .ref xa), (0, .ref b)]) (kk : ∀ (H1 : Heap) (locs1 : List Loc) (c1 s1 : Nat), c1 ≤ cells + 720 → s1 ≤ slots + 4320 → LSt D cy A xa za (j + 1) H1 → va_S A s.heap H1 locs1 → W p l e room_1 s m #[Value.ref b] below meth c H1 locs1 c1 s1 (lw_Z below #[Value.ref b] s) (F0 m 1695 ls [])) : W p l e room_1 s m #[Value.ref b] below meth c H locs cells slots (lw_Z below #[Value.ref b] s) (F0 m 718 ls []) := by
  obtain ⟨hx, hb, hr, hml, hown, hts, hX, hbl, hlocks, hgv⟩ := id C0
  have hg : ∀ w ∈ lw_good, w.before #[Value.ref b] s = true := fun w h => hts w (List.mem_filter.mp h).1
  have hown : s.vm.findClass RL = some m.cls := hown
  obtain ⟨n, n3, T, PK, PT, SX, SY, WH, W1, W2, hT, hXS, hZS, hP1, hP2, hD1, hD2, hap⟩ := hLS
  have q1 := inbN (6 * j + 1) Ln (by omega) (by omega)
  have q2 := inbN (6 * j + 2) Ln (by omega) (by omega)
  have q3 : (cells + 0) ≤ 600000 ∧ (slots + 0) ≤ 7302250 := ⟨by omega, by omega⟩
  have q4 : 0 ≤ T ∧ T ≤ 900000 := ⟨by omega, by omega⟩
  have q5 : ((cells + 0) + 0) ≤ 600000 ∧ ((slots + 0) + 0) ≤ 7302250 := ⟨by omega, by omega⟩
  have q6 : ((cells + 0) + 0) ≤ cells + 720 := by omega
  have q7 : ((slots + 0) + 0) ≤ slots + 4320 := by omega
  have q8 : 0 ≤ (T + 1) ∧ (T + 1) ≤ ((j + 1 : Nat) : Int) := ⟨by omega, by omega⟩
  refine lv_aload_n hx hb dL_law_718 rfl (lv_at hl 2 rfl) ?_
  refine lv_aload_n hx hb dL_law_719 rfl (lv_at hl 3 rfl) ?_
  refine lv_iload_n hx hb dL_law_720 rfl (lv_at hl 0 rfl) ?_
  refine lv_iconst (v := 1) hx hb dL_law_721 (by decide) ?_
  refine lv_iadd hx hb dL_law_722 ?_
  refine lv_topi (fun f1 ef1 => ?_)
  obtain rfl : f1 = nI (6 * j + 1) := ef1.trans (nI_add (6 * j) 1)
  refine va_sld hx hb hX hbl hbA hS q1 dL_law_723 ?_
  refine lv_aload_n hx hb dL_law_724 rfl (lv_at hl 3 rfl) ?_
  refine lv_iload_n hx hb dL_law_725 rfl (lv_at hl 0 rfl) ?_
  refine lv_iconst (v := 2) hx hb dL_law_726 (by decide) ?_
  refine lv_iadd hx hb dL_law_727 ?_
  refine lv_topi (fun f2 ef2 => ?_)
  obtain rfl : f2 = nI (6 * j + 2) := ef2.trans (nI_add (6 * j) 2)
  refine va_sld hx hb hX hbl hbA hS q2 dL_law_728 ?_
  refine cx_tear C0 hA hN hK hST (xs ((nI (6 * j + 1)) : Int32).toNatClampNeg) (xs ((nI (6 * j + 2)) : Int32).toNatClampNeg) q3 q4 hZS.svhi hXS hP1 hP2 hD1 hap hS hl (fun r3 W1 H locs _hr hXS hP1 hP2 hD1 hap hS => ?_)
  refine lv_pop hx hb dL_law_732 rfl ?_
  refine lv_aload_n hx hb dL_law_733 rfl (lv_at hl 1 rfl) ?_
  refine lv_aload_n hx hb dL_law_734 rfl (lv_at hl 3 rfl) ?_
  refine lv_iload_n hx hb dL_law_735 rfl (lv_at hl 0 rfl) ?_
  refine lv_iconst (v := 1) hx hb dL_law_736 (by decide) ?_
  refine lv_iadd hx hb dL_law_737 ?_
  refine lv_topi (fun f4 ef4 => ?_)
  obtain rfl : f4 = nI (6 * j + 1) := ef4.trans (nI_add (6 * j) 1)
  refine va_sld hx hb hX hbl hbA hS q1 dL_law_738 ?_
  refine lv_aload_n hx hb dL_law_739 rfl (lv_at hl 3 rfl) ?_
  refine lv_iload_n hx hb dL_law_740 rfl (lv_at hl 0 rfl) ?_
  refine lv_iconst (v := 2) hx hb dL_law_741 (by decide) ?_
  refine lv_iadd hx hb dL_law_742 ?_
  refine lv_topi (fun f5 ef5 => ?_)
  obtain rfl : f5 = nI (6 * j + 2) := ef5.trans (nI_add (6 * j) 2)
  refine va_sld hx hb hX hbl hbA hS q2 dL_law_743 ?_
  refine cz_tear C0 hA hN hK hST (xs ((nI (6 * j + 1)) : Int32).toNatClampNeg) (xs ((nI (6 * j + 2)) : Int32).toNatClampNeg) q5 hZS hP2 hP1 hD2 hap.sy hS hl (fun r6 W2 H locs _hr hZS hP2 hP1 hD2 hap hS => ?_)
  have hap := hap.sy
  have hXS := hXS.imp (Q := PS _ _ (T + 1) _ _ _ _ _) (fun x0 x2 x5 x6 x8 x7 x9 x10 K L M h => h)
  refine lv_pop hx hb dL_law_747 rfl ?_
  refine lv_goto (tgt := 1695) hx hb dL_law_748 (by decide) ?_
  exact kk H locs _ _ q6 q7 ⟨_, _, (T + 1), _, _, _, _, _, _, _, q8, hXS, hZS, hP1, hP2, hD1, hD2, hap⟩ hS
set_option maxHeartbeats 4000000 in
set_option maxRecDepth 100000 in
theorem law_c13 {p : Program} {l : Launch} {e : Env} {s : State} {m : MethodId} {below : List Frame} {meth : Method} {c : Code} {b Ln : Nat} {xs : Nat → Int32} (C0 : lw_At p s m meth c b Ln xs) {D : va_G} {cy : Nat → ClassId} {A : Nat → Prop} (hA : ∀ q, s.heap.size ≤ q → A q) (hA2 : ∀ q, A q → s.heap.size ≤ q) (hbA : ¬ A b) (hN : NW s) (hK : va_K D vwCl (tysC cy) s) (hST : STAT A s) {xa za : Nat} {j : Nat} {H : Heap} {locs : List Loc} {cells slots : Nat} {ls : Array Slot} (hj : 6 * j + 6 ≤ Ln) (hLn : Ln ≤ 3072) (hc : cells + 720 ≤ 600000) (hs : slots + 4320 ≤ 7302250) (hLS : LSt D cy A xa za j H) (hS : va_S A s.heap H locs) (hl : lv_has ls 4 [(3, .int (nI (6 * j))), (2, .ref za), (1, .ref xa), (0, .ref b)]) (kk : ∀ (H1 : Heap) (locs1 : List Loc) (c1 s1 : Nat), c1 ≤ cells + 720 → s1 ≤ slots + 4320 → LSt D cy A xa za (j + 1) H1 → va_S A s.heap H1 locs1 → W p l e room_1 s m #[Value.ref b] below meth c H1 locs1 c1 s1 (lw_Z below #[Value.ref b] s) (F0 m 1695 ls [])) : W p l e room_1 s m #[Value.ref b] below meth c H locs cells slots (lw_Z below #[Value.ref b] s) (F0 m 751 ls []) := by
  obtain ⟨hx, hb, hr, hml, hown, hts, hX, hbl, hlocks, hgv⟩ := id C0
  have hg : ∀ w ∈ lw_good, w.before #[Value.ref b] s = true := fun w h => hts w (List.mem_filter.mp h).1
  have hown : s.vm.findClass RL = some m.cls := hown
  obtain ⟨n, n3, T, PK, PT, SX, SY, WH, W1, W2, hT, hXS, hZS, hP1, hP2, hD1, hD2, hap⟩ := hLS
  have q1 := inbN (6 * j + 1) Ln (by omega) (by omega)
  have q2 := inbN (6 * j + 2) Ln (by omega) (by omega)
  have q3 := inbN (6 * j + 3) Ln (by omega) (by omega)
  have q4 : (cells + 0) ≤ 600000 ∧ (slots + 0) ≤ 7302250 := ⟨by omega, by omega⟩
  have q5 : 0 ≤ T ∧ T ≤ 900000 := ⟨by omega, by omega⟩
  have q6 : ((cells + 0) + 0) ≤ 600000 ∧ ((slots + 0) + 0) ≤ 7302250 := ⟨by omega, by omega⟩
  have q7 : ((cells + 0) + 0) ≤ cells + 720 := by omega
  have q8 : ((slots + 0) + 0) ≤ slots + 4320 := by omega
  have q9 : 0 ≤ (T + 1) ∧ (T + 1) ≤ ((j + 1 : Nat) : Int) := ⟨by omega, by omega⟩
  refine lv_aload_n hx hb dL_law_751 rfl (lv_at hl 2 rfl) ?_
  refine lv_aload_n hx hb dL_law_752 rfl (lv_at hl 3 rfl) ?_
  refine lv_iload_n hx hb dL_law_753 rfl (lv_at hl 0 rfl) ?_
  refine lv_iconst (v := 1) hx hb dL_law_754 (by decide) ?_
  refine lv_iadd hx hb dL_law_755 ?_
  refine lv_topi (fun f1 ef1 => ?_)
  obtain rfl : f1 = nI (6 * j + 1) := ef1.trans (nI_add (6 * j) 1)
  refine va_sld hx hb hX hbl hbA hS q1 dL_law_756 ?_
  refine lv_aload_n hx hb dL_law_757 rfl (lv_at hl 3 rfl) ?_
  refine lv_iload_n hx hb dL_law_758 rfl (lv_at hl 0 rfl) ?_
  refine lv_iconst (v := 2) hx hb dL_law_759 (by decide) ?_
  refine lv_iadd hx hb dL_law_760 ?_
  refine lv_topi (fun f2 ef2 => ?_)
  obtain rfl : f2 = nI (6 * j + 2) := ef2.trans (nI_add (6 * j) 2)
  refine va_sld hx hb hX hbl hbA hS q2 dL_law_761 ?_
  refine lv_aload_n hx hb dL_law_762 rfl (lv_at hl 3 rfl) ?_
  refine lv_iload_n hx hb dL_law_763 rfl (lv_at hl 0 rfl) ?_
  refine lv_iconst (v := 3) hx hb dL_law_764 (by decide) ?_
  refine lv_iadd hx hb dL_law_765 ?_
  refine lv_topi (fun f3 ef3 => ?_)
  obtain rfl : f3 = nI (6 * j + 3) := ef3.trans (nI_add (6 * j) 3)
  refine va_sld hx hb hX hbl hbA hS q3 dL_law_766 ?_
  refine cx_earn C0 hA hN hK hST (xs ((nI (6 * j + 1)) : Int32).toNatClampNeg) (xs ((nI (6 * j + 2)) : Int32).toNatClampNeg) (xs ((nI (6 * j + 3)) : Int32).toNatClampNeg) q4 q5 hZS.svhi hXS hP1 hP2 hD1 hap hS hl (fun r4 W1 H locs _hr hXS hP1 hP2 hD1 hap hS => ?_)
  refine lv_pop hx hb dL_law_770 rfl ?_
  refine lv_aload_n hx hb dL_law_771 rfl (lv_at hl 1 rfl) ?_
  refine lv_aload_n hx hb dL_law_772 rfl (lv_at hl 3 rfl) ?_
  refine lv_iload_n hx hb dL_law_773 rfl (lv_at hl 0 rfl) ?_
  refine lv_iconst (v := 1) hx hb dL_law_774 (by decide) ?_
  refine lv_iadd hx hb dL_law_775 ?_
  refine lv_topi (fun f5 ef5 => ?_)
  obtain rfl : f5 = nI (6 * j + 1) := ef5.trans (nI_add (6 * j) 1)
  refine va_sld hx hb hX hbl hbA hS q1 dL_law_776 ?_
  refine lv_aload_n hx hb dL_law_777 rfl (lv_at hl 3 rfl) ?_
  refine lv_iload_n hx hb dL_law_778 rfl (lv_at hl 0 rfl) ?_
  refine lv_iconst (v := 2) hx hb dL_law_779 (by decide) ?_
  refine lv_iadd hx hb dL_law_780 ?_
  refine lv_topi (fun f6 ef6 => ?_)
  obtain rfl : f6 = nI (6 * j + 2) := ef6.trans (nI_add (6 * j) 2)
  refine va_sld hx hb hX hbl hbA hS q2 dL_law_781 ?_
  refine lv_aload_n hx hb dL_law_782 rfl (lv_at hl 3 rfl) ?_
  refine lv_iload_n hx hb dL_law_783 rfl (lv_at hl 0 rfl) ?_
  refine lv_iconst (v := 3) hx hb dL_law_784 (by decide) ?_
  refine lv_iadd hx hb dL_law_785 ?_
  refine lv_topi (fun f7 ef7 => ?_)
  obtain rfl : f7 = nI (6 * j + 3) := ef7.trans (nI_add (6 * j) 3)
  refine va_sld hx hb hX hbl hbA hS q3 dL_law_786 ?_
  refine cz_earn C0 hA hN hK hST (xs ((nI (6 * j + 1)) : Int32).toNatClampNeg) (xs ((nI (6 * j + 2)) : Int32).toNatClampNeg) (xs ((nI (6 * j + 3)) : Int32).toNatClampNeg) q6 hZS hP2 hP1 hD2 hap.sy hS hl (fun r8 W2 H locs _hr hZS hP2 hP1 hD2 hap hS => ?_)
  have hap := hap.sy
  obtain ⟨n9, l9, hc9, hZS⟩ := hZS
  have hXS := hXS.imp (Q := PS _ _ (T + 1) _ _ _ _ _) (fun x0 x2 x5 x6 x8 x7 x9 x10 K L M h => ⟨h.1 n9 l9 hc9, h.2⟩)
  refine lv_pop hx hb dL_law_790 rfl ?_
  refine lv_goto (tgt := 1695) hx hb dL_law_791 (by decide) ?_
  exact kk H locs _ _ q7 q8 ⟨_, _, (T + 1), _, _, _, _, _, _, _, q9, hXS, hZS, hP1, hP2, hD1, hD2, hap⟩ hS
set_option maxHeartbeats 4000000 in
set_option maxRecDepth 100000 in
theorem law_c14 {p : Program} {l : Launch} {e : Env} {s : State} {m : MethodId} {below : List Frame} {meth : Method} {c : Code} {b Ln : Nat} {xs : Nat → Int32} (C0 : lw_At p s m meth c b Ln xs) {D : va_G} {cy : Nat → ClassId} {A : Nat → Prop} (hA : ∀ q, s.heap.size ≤ q → A q) (hA2 : ∀ q, A q → s.heap.size ≤ q) (hbA : ¬ A b) (hN : NW s) (hK : va_K D vwCl (tysC cy) s) (hST : STAT A s) {xa za : Nat} {j : Nat} {H : Heap} {locs : List Loc} {cells slots : Nat} {ls : Array Slot} (hj : 6 * j + 6 ≤ Ln) (hLn : Ln ≤ 3072) (hc : cells + 720 ≤ 600000) (hs : slots + 4320 ≤ 7302250) (hLS : LSt D cy A xa za j H) (hS : va_S A s.heap H locs) (hl : lv_has ls 4 [(3, .int (nI (6 * j))), (2, .ref za), (1, .ref xa), (0, .ref b)]) (kk : ∀ (H1 : Heap) (locs1 : List Loc) (c1 s1 : Nat), c1 ≤ cells + 720 → s1 ≤ slots + 4320 → LSt D cy A xa za (j + 1) H1 → va_S A s.heap H1 locs1 → W p l e room_1 s m #[Value.ref b] below meth c H1 locs1 c1 s1 (lw_Z below #[Value.ref b] s) (F0 m 1695 ls [])) : W p l e room_1 s m #[Value.ref b] below meth c H locs cells slots (lw_Z below #[Value.ref b] s) (F0 m 794 ls []) := by
  obtain ⟨hx, hb, hr, hml, hown, hts, hX, hbl, hlocks, hgv⟩ := id C0
  have hg : ∀ w ∈ lw_good, w.before #[Value.ref b] s = true := fun w h => hts w (List.mem_filter.mp h).1
  have hown : s.vm.findClass RL = some m.cls := hown
  obtain ⟨n, n3, T, PK, PT, SX, SY, WH, W1, W2, hT, hXS, hZS, hP1, hP2, hD1, hD2, hap⟩ := hLS
  have q1 := inbN (6 * j + 1) Ln (by omega) (by omega)
  have q2 := inbN (6 * j + 2) Ln (by omega) (by omega)
  have q3 := inbN (6 * j + 3) Ln (by omega) (by omega)
  have q4 : (cells + 0) ≤ 600000 ∧ (slots + 0) ≤ 7302250 := ⟨by omega, by omega⟩
  have q5 : 0 ≤ T ∧ T ≤ 900000 := ⟨by omega, by omega⟩
  have q6 : ((cells + 0) + 0) ≤ 600000 ∧ ((slots + 0) + 0) ≤ 7302250 := ⟨by omega, by omega⟩
  have q7 : ((cells + 0) + 0) ≤ cells + 720 := by omega
  have q8 : ((slots + 0) + 0) ≤ slots + 4320 := by omega
  have q9 : 0 ≤ (T + 1) ∧ (T + 1) ≤ ((j + 1 : Nat) : Int) := ⟨by omega, by omega⟩
  refine lv_aload_n hx hb dL_law_794 rfl (lv_at hl 2 rfl) ?_
  refine lv_aload_n hx hb dL_law_795 rfl (lv_at hl 3 rfl) ?_
  refine lv_iload_n hx hb dL_law_796 rfl (lv_at hl 0 rfl) ?_
  refine lv_iconst (v := 1) hx hb dL_law_797 (by decide) ?_
  refine lv_iadd hx hb dL_law_798 ?_
  refine lv_topi (fun f1 ef1 => ?_)
  obtain rfl : f1 = nI (6 * j + 1) := ef1.trans (nI_add (6 * j) 1)
  refine va_sld hx hb hX hbl hbA hS q1 dL_law_799 ?_
  refine lv_aload_n hx hb dL_law_800 rfl (lv_at hl 3 rfl) ?_
  refine lv_iload_n hx hb dL_law_801 rfl (lv_at hl 0 rfl) ?_
  refine lv_iconst (v := 2) hx hb dL_law_802 (by decide) ?_
  refine lv_iadd hx hb dL_law_803 ?_
  refine lv_topi (fun f2 ef2 => ?_)
  obtain rfl : f2 = nI (6 * j + 2) := ef2.trans (nI_add (6 * j) 2)
  refine va_sld hx hb hX hbl hbA hS q2 dL_law_804 ?_
  refine lv_aload_n hx hb dL_law_805 rfl (lv_at hl 3 rfl) ?_
  refine lv_iload_n hx hb dL_law_806 rfl (lv_at hl 0 rfl) ?_
  refine lv_iconst (v := 3) hx hb dL_law_807 (by decide) ?_
  refine lv_iadd hx hb dL_law_808 ?_
  refine lv_topi (fun f3 ef3 => ?_)
  obtain rfl : f3 = nI (6 * j + 3) := ef3.trans (nI_add (6 * j) 3)
  refine va_sld hx hb hX hbl hbA hS q3 dL_law_809 ?_
  refine cx_spend C0 hA hN hK hST (xs ((nI (6 * j + 1)) : Int32).toNatClampNeg) (xs ((nI (6 * j + 2)) : Int32).toNatClampNeg) (xs ((nI (6 * j + 3)) : Int32).toNatClampNeg) q4 q5 hZS.svhi hXS hP1 hP2 hD1 hap hS hl (fun r4 W1 H locs _hr hXS hP1 hP2 hD1 hap hS => ?_)
  refine lv_pop hx hb dL_law_813 rfl ?_
  refine lv_aload_n hx hb dL_law_814 rfl (lv_at hl 1 rfl) ?_
  refine lv_aload_n hx hb dL_law_815 rfl (lv_at hl 3 rfl) ?_
  refine lv_iload_n hx hb dL_law_816 rfl (lv_at hl 0 rfl) ?_
  refine lv_iconst (v := 1) hx hb dL_law_817 (by decide) ?_
  refine lv_iadd hx hb dL_law_818 ?_
  refine lv_topi (fun f5 ef5 => ?_)
  obtain rfl : f5 = nI (6 * j + 1) := ef5.trans (nI_add (6 * j) 1)
  refine va_sld hx hb hX hbl hbA hS q1 dL_law_819 ?_
  refine lv_aload_n hx hb dL_law_820 rfl (lv_at hl 3 rfl) ?_
  refine lv_iload_n hx hb dL_law_821 rfl (lv_at hl 0 rfl) ?_
  refine lv_iconst (v := 2) hx hb dL_law_822 (by decide) ?_
  refine lv_iadd hx hb dL_law_823 ?_
  refine lv_topi (fun f6 ef6 => ?_)
  obtain rfl : f6 = nI (6 * j + 2) := ef6.trans (nI_add (6 * j) 2)
  refine va_sld hx hb hX hbl hbA hS q2 dL_law_824 ?_
  refine lv_aload_n hx hb dL_law_825 rfl (lv_at hl 3 rfl) ?_
  refine lv_iload_n hx hb dL_law_826 rfl (lv_at hl 0 rfl) ?_
  refine lv_iconst (v := 3) hx hb dL_law_827 (by decide) ?_
  refine lv_iadd hx hb dL_law_828 ?_
  refine lv_topi (fun f7 ef7 => ?_)
  obtain rfl : f7 = nI (6 * j + 3) := ef7.trans (nI_add (6 * j) 3)
  refine va_sld hx hb hX hbl hbA hS q3 dL_law_829 ?_
  refine cz_spend C0 hA hN hK hST (xs ((nI (6 * j + 1)) : Int32).toNatClampNeg) (xs ((nI (6 * j + 2)) : Int32).toNatClampNeg) (xs ((nI (6 * j + 3)) : Int32).toNatClampNeg) q6 hZS hP2 hP1 hD2 hap.sy hS hl (fun r8 W2 H locs _hr hZS hP2 hP1 hD2 hap hS => ?_)
  have hap := hap.sy
  obtain ⟨n9, l9, hc9, hZS⟩ := hZS
  have hXS := hXS.imp (Q := PS _ _ (T + 1) _ _ _ _ _) (fun x0 x2 x5 x6 x8 x7 x9 x10 K L M h => ⟨h.1 n9 l9 hc9, h.2⟩)
  refine lv_pop hx hb dL_law_833 rfl ?_
  refine lv_goto (tgt := 1695) hx hb dL_law_834 (by decide) ?_
  exact kk H locs _ _ q7 q8 ⟨_, _, (T + 1), _, _, _, _, _, _, _, q9, hXS, hZS, hP1, hP2, hD1, hD2, hap⟩ hS
set_option maxHeartbeats 4000000 in
set_option maxRecDepth 100000 in
theorem law_c15 {p : Program} {l : Launch} {e : Env} {s : State} {m : MethodId} {below : List Frame} {meth : Method} {c : Code} {b Ln : Nat} {xs : Nat → Int32} (C0 : lw_At p s m meth c b Ln xs) {D : va_G} {cy : Nat → ClassId} {A : Nat → Prop} (hA : ∀ q, s.heap.size ≤ q → A q) (hA2 : ∀ q, A q → s.heap.size ≤ q) (hbA : ¬ A b) (hN : NW s) (hK : va_K D vwCl (tysC cy) s) (hST : STAT A s) {xa za : Nat} {j : Nat} {H : Heap} {locs : List Loc} {cells slots : Nat} {ls : Array Slot} (hj : 6 * j + 6 ≤ Ln) (hLn : Ln ≤ 3072) (hc : cells + 720 ≤ 600000) (hs : slots + 4320 ≤ 7302250) (hLS : LSt D cy A xa za j H) (hS : va_S A s.heap H locs) (hl : lv_has ls 4 [(3, .int (nI (6 * j))), (2, .ref za), (1, .ref xa), (0, .ref b)]) (kk : ∀ (H1 : Heap) (locs1 : List Loc) (c1 s1 : Nat), c1 ≤ cells + 720 → s1 ≤ slots + 4320 → LSt D cy A xa za (j + 1) H1 → va_S A s.heap H1 locs1 → W p l e room_1 s m #[Value.ref b] below meth c H1 locs1 c1 s1 (lw_Z below #[Value.ref b] s) (F0 m 1695 ls [])) : W p l e room_1 s m #[Value.ref b] below meth c H locs cells slots (lw_Z below #[Value.ref b] s) (F0 m 837 ls []) := by
  obtain ⟨hx, hb, hr, hml, hown, hts, hX, hbl, hlocks, hgv⟩ := id C0
  have hg : ∀ w ∈ lw_good, w.before #[Value.ref b] s = true := fun w h => hts w (List.mem_filter.mp h).1
  have hown : s.vm.findClass RL = some m.cls := hown
  obtain ⟨n, n3, T, PK, PT, SX, SY, WH, W1, W2, hT, hXS, hZS, hP1, hP2, hD1, hD2, hap⟩ := hLS
  have q1 := inbN (6 * j + 1) Ln (by omega) (by omega)
  have q2 := inbN (6 * j + 2) Ln (by omega) (by omega)
  have q3 : (cells + 0) ≤ 600000 ∧ (slots + 0) ≤ 7302250 := ⟨by omega, by omega⟩
  have q4 : 0 ≤ T ∧ T ≤ 900000 := ⟨by omega, by omega⟩
  have q5 : ((cells + 0) + 0) ≤ 600000 ∧ ((slots + 0) + 0) ≤ 7302250 := ⟨by omega, by omega⟩
  have q6 : ((cells + 0) + 0) ≤ cells + 720 := by omega
  have q7 : ((slots + 0) + 0) ≤ slots + 4320 := by omega
  have q8 : 0 ≤ (T + 1) ∧ (T + 1) ≤ ((j + 1 : Nat) : Int) := ⟨by omega, by omega⟩
  refine lv_aload_n hx hb dL_law_837 rfl (lv_at hl 2 rfl) ?_
  refine lv_aload_n hx hb dL_law_838 rfl (lv_at hl 3 rfl) ?_
  refine lv_iload_n hx hb dL_law_839 rfl (lv_at hl 0 rfl) ?_
  refine lv_iconst (v := 1) hx hb dL_law_840 (by decide) ?_
  refine lv_iadd hx hb dL_law_841 ?_
  refine lv_topi (fun f1 ef1 => ?_)
  obtain rfl : f1 = nI (6 * j + 1) := ef1.trans (nI_add (6 * j) 1)
  refine va_sld hx hb hX hbl hbA hS q1 dL_law_842 ?_
  refine lv_aload_n hx hb dL_law_843 rfl (lv_at hl 3 rfl) ?_
  refine lv_iload_n hx hb dL_law_844 rfl (lv_at hl 0 rfl) ?_
  refine lv_iconst (v := 2) hx hb dL_law_845 (by decide) ?_
  refine lv_iadd hx hb dL_law_846 ?_
  refine lv_topi (fun f2 ef2 => ?_)
  obtain rfl : f2 = nI (6 * j + 2) := ef2.trans (nI_add (6 * j) 2)
  refine va_sld hx hb hX hbl hbA hS q2 dL_law_847 ?_
  refine cx_loose C0 hA hN hK hST (xs ((nI (6 * j + 1)) : Int32).toNatClampNeg) (xs ((nI (6 * j + 2)) : Int32).toNatClampNeg) q3 q4 hZS.svhi hXS hP1 hP2 hD1 hap hS hl (fun r3 W1 H locs hXS hP1 hP2 hD1 hap hS => ?_)
  refine lv_pop hx hb dL_law_851 rfl ?_
  refine lv_aload_n hx hb dL_law_852 rfl (lv_at hl 1 rfl) ?_
  refine lv_aload_n hx hb dL_law_853 rfl (lv_at hl 3 rfl) ?_
  refine lv_iload_n hx hb dL_law_854 rfl (lv_at hl 0 rfl) ?_
  refine lv_iconst (v := 1) hx hb dL_law_855 (by decide) ?_
  refine lv_iadd hx hb dL_law_856 ?_
  refine lv_topi (fun f4 ef4 => ?_)
  obtain rfl : f4 = nI (6 * j + 1) := ef4.trans (nI_add (6 * j) 1)
  refine va_sld hx hb hX hbl hbA hS q1 dL_law_857 ?_
  refine lv_aload_n hx hb dL_law_858 rfl (lv_at hl 3 rfl) ?_
  refine lv_iload_n hx hb dL_law_859 rfl (lv_at hl 0 rfl) ?_
  refine lv_iconst (v := 2) hx hb dL_law_860 (by decide) ?_
  refine lv_iadd hx hb dL_law_861 ?_
  refine lv_topi (fun f5 ef5 => ?_)
  obtain rfl : f5 = nI (6 * j + 2) := ef5.trans (nI_add (6 * j) 2)
  refine va_sld hx hb hX hbl hbA hS q2 dL_law_862 ?_
  refine cz_loose C0 hA hN hK hST (xs ((nI (6 * j + 1)) : Int32).toNatClampNeg) (xs ((nI (6 * j + 2)) : Int32).toNatClampNeg) q5 hZS hP2 hP1 hD2 hap.sy hS hl (fun r6 W2 H locs hZS hP2 hP1 hD2 hap hS => ?_)
  have hap := hap.sy
  have hXS := hXS.imp (Q := PS _ _ (T + 1) _ _ _ _ _) (fun x0 x2 x5 x6 x8 x7 x9 x10 K L M h => h)
  refine lv_pop hx hb dL_law_866 rfl ?_
  refine lv_goto (tgt := 1695) hx hb dL_law_867 (by decide) ?_
  exact kk H locs _ _ q6 q7 ⟨_, _, (T + 1), _, _, _, _, _, _, _, q8, hXS, hZS, hP1, hP2, hD1, hD2, hap⟩ hS
set_option maxHeartbeats 4000000 in
set_option maxRecDepth 100000 in
theorem law_c16 {p : Program} {l : Launch} {e : Env} {s : State} {m : MethodId} {below : List Frame} {meth : Method} {c : Code} {b Ln : Nat} {xs : Nat → Int32} (C0 : lw_At p s m meth c b Ln xs) {D : va_G} {cy : Nat → ClassId} {A : Nat → Prop} (hA : ∀ q, s.heap.size ≤ q → A q) (hA2 : ∀ q, A q → s.heap.size ≤ q) (hbA : ¬ A b) (hN : NW s) (hK : va_K D vwCl (tysC cy) s) (hST : STAT A s) {xa za : Nat} {j : Nat} {H : Heap} {locs : List Loc} {cells slots : Nat} {ls : Array Slot} (hj : 6 * j + 6 ≤ Ln) (hLn : Ln ≤ 3072) (hc : cells + 720 ≤ 600000) (hs : slots + 4320 ≤ 7302250) (hLS : LSt D cy A xa za j H) (hS : va_S A s.heap H locs) (hl : lv_has ls 4 [(3, .int (nI (6 * j))), (2, .ref za), (1, .ref xa), (0, .ref b)]) (kk : ∀ (H1 : Heap) (locs1 : List Loc) (c1 s1 : Nat), c1 ≤ cells + 720 → s1 ≤ slots + 4320 → LSt D cy A xa za (j + 1) H1 → va_S A s.heap H1 locs1 → W p l e room_1 s m #[Value.ref b] below meth c H1 locs1 c1 s1 (lw_Z below #[Value.ref b] s) (F0 m 1695 ls [])) : W p l e room_1 s m #[Value.ref b] below meth c H locs cells slots (lw_Z below #[Value.ref b] s) (F0 m 870 ls []) := by
  obtain ⟨hx, hb, hr, hml, hown, hts, hX, hbl, hlocks, hgv⟩ := id C0
  have hg : ∀ w ∈ lw_good, w.before #[Value.ref b] s = true := fun w h => hts w (List.mem_filter.mp h).1
  have hown : s.vm.findClass RL = some m.cls := hown
  obtain ⟨n, n3, T, PK, PT, SX, SY, WH, W1, W2, hT, hXS, hZS, hP1, hP2, hD1, hD2, hap⟩ := hLS
  have q1 := inbN (6 * j + 1) Ln (by omega) (by omega)
  have q2 := inbN (6 * j + 2) Ln (by omega) (by omega)
  have q3 := inbN (6 * j + 3) Ln (by omega) (by omega)
  have q4 := inbN (6 * j + 4) Ln (by omega) (by omega)
  have q5 := inbN (6 * j + 5) Ln (by omega) (by omega)
  have q6 : (cells + 0) ≤ 600000 ∧ (slots + 0) ≤ 7302250 := ⟨by omega, by omega⟩
  have q7 : 0 ≤ T ∧ T ≤ 900000 := ⟨by omega, by omega⟩
  have q8 : ((cells + 0) + 0) ≤ 600000 ∧ ((slots + 0) + 0) ≤ 7302250 := ⟨by omega, by omega⟩
  have q9 : ((cells + 0) + 0) ≤ cells + 720 := by omega
  have q10 : ((slots + 0) + 0) ≤ slots + 4320 := by omega
  have q11 : 0 ≤ (T + 1) ∧ (T + 1) ≤ ((j + 1 : Nat) : Int) := ⟨by omega, by omega⟩
  refine lv_aload_n hx hb dL_law_870 rfl (lv_at hl 2 rfl) ?_
  refine lv_aload_n hx hb dL_law_871 rfl (lv_at hl 3 rfl) ?_
  refine lv_iload_n hx hb dL_law_872 rfl (lv_at hl 0 rfl) ?_
  refine lv_iconst (v := 1) hx hb dL_law_873 (by decide) ?_
  refine lv_iadd hx hb dL_law_874 ?_
  refine lv_topi (fun f1 ef1 => ?_)
  obtain rfl : f1 = nI (6 * j + 1) := ef1.trans (nI_add (6 * j) 1)
  refine va_sld hx hb hX hbl hbA hS q1 dL_law_875 ?_
  refine lv_aload_n hx hb dL_law_876 rfl (lv_at hl 3 rfl) ?_
  refine lv_iload_n hx hb dL_law_877 rfl (lv_at hl 0 rfl) ?_
  refine lv_iconst (v := 2) hx hb dL_law_878 (by decide) ?_
  refine lv_iadd hx hb dL_law_879 ?_
  refine lv_topi (fun f2 ef2 => ?_)
  obtain rfl : f2 = nI (6 * j + 2) := ef2.trans (nI_add (6 * j) 2)
  refine va_sld hx hb hX hbl hbA hS q2 dL_law_880 ?_
  refine lv_aload_n hx hb dL_law_881 rfl (lv_at hl 3 rfl) ?_
  refine lv_iload_n hx hb dL_law_882 rfl (lv_at hl 0 rfl) ?_
  refine lv_iconst (v := 3) hx hb dL_law_883 (by decide) ?_
  refine lv_iadd hx hb dL_law_884 ?_
  refine lv_topi (fun f3 ef3 => ?_)
  obtain rfl : f3 = nI (6 * j + 3) := ef3.trans (nI_add (6 * j) 3)
  refine va_sld hx hb hX hbl hbA hS q3 dL_law_885 ?_
  refine lv_aload_n hx hb dL_law_886 rfl (lv_at hl 3 rfl) ?_
  refine lv_iload_n hx hb dL_law_887 rfl (lv_at hl 0 rfl) ?_
  refine lv_iconst (v := 4) hx hb dL_law_888 (by decide) ?_
  refine lv_iadd hx hb dL_law_889 ?_
  refine lv_topi (fun f4 ef4 => ?_)
  obtain rfl : f4 = nI (6 * j + 4) := ef4.trans (nI_add (6 * j) 4)
  refine va_sld hx hb hX hbl hbA hS q4 dL_law_890 ?_
  refine lv_aload_n hx hb dL_law_891 rfl (lv_at hl 3 rfl) ?_
  refine lv_iload_n hx hb dL_law_892 rfl (lv_at hl 0 rfl) ?_
  refine lv_iconst (v := 5) hx hb dL_law_893 (by decide) ?_
  refine lv_iadd hx hb dL_law_894 ?_
  refine lv_topi (fun f5 ef5 => ?_)
  obtain rfl : f5 = nI (6 * j + 5) := ef5.trans (nI_add (6 * j) 5)
  refine va_sld hx hb hX hbl hbA hS q5 dL_law_895 ?_
  refine lv_if_eq (tgt := 903) hx hb dL_law_896 (by decide) (fun c6 => ?_) (fun c6 => ?_)
  · refine lv_iconst (v := 0) hx hb dL_law_903 (by decide) ?_
    refine cx_move C0 hA hN hK hST (xs ((nI (6 * j + 1)) : Int32).toNatClampNeg) (xs ((nI (6 * j + 2)) : Int32).toNatClampNeg) (xs ((nI (6 * j + 3)) : Int32).toNatClampNeg) (xs ((nI (6 * j + 4)) : Int32).toNatClampNeg) 0 (Or.inl rfl) q6 q7 hZS.svhi hXS hP1 hP2 hD1 hap hS hl (fun r7 W1 H locs _hr hXS hP1 hP2 hD1 hap hS => ?_)
    refine lv_pop hx hb dL_law_907 rfl ?_
    refine lv_aload_n hx hb dL_law_908 rfl (lv_at hl 1 rfl) ?_
    refine lv_aload_n hx hb dL_law_909 rfl (lv_at hl 3 rfl) ?_
    refine lv_iload_n hx hb dL_law_910 rfl (lv_at hl 0 rfl) ?_
    refine lv_iconst (v := 1) hx hb dL_law_911 (by decide) ?_
    refine lv_iadd hx hb dL_law_912 ?_
    refine lv_topi (fun f8 ef8 => ?_)
    obtain rfl : f8 = nI (6 * j + 1) := ef8.trans (nI_add (6 * j) 1)
    refine va_sld hx hb hX hbl hbA hS q1 dL_law_913 ?_
    refine lv_aload_n hx hb dL_law_914 rfl (lv_at hl 3 rfl) ?_
    refine lv_iload_n hx hb dL_law_915 rfl (lv_at hl 0 rfl) ?_
    refine lv_iconst (v := 2) hx hb dL_law_916 (by decide) ?_
    refine lv_iadd hx hb dL_law_917 ?_
    refine lv_topi (fun f9 ef9 => ?_)
    obtain rfl : f9 = nI (6 * j + 2) := ef9.trans (nI_add (6 * j) 2)
    refine va_sld hx hb hX hbl hbA hS q2 dL_law_918 ?_
    refine lv_aload_n hx hb dL_law_919 rfl (lv_at hl 3 rfl) ?_
    refine lv_iload_n hx hb dL_law_920 rfl (lv_at hl 0 rfl) ?_
    refine lv_iconst (v := 3) hx hb dL_law_921 (by decide) ?_
    refine lv_iadd hx hb dL_law_922 ?_
    refine lv_topi (fun f10 ef10 => ?_)
    obtain rfl : f10 = nI (6 * j + 3) := ef10.trans (nI_add (6 * j) 3)
    refine va_sld hx hb hX hbl hbA hS q3 dL_law_923 ?_
    refine lv_aload_n hx hb dL_law_924 rfl (lv_at hl 3 rfl) ?_
    refine lv_iload_n hx hb dL_law_925 rfl (lv_at hl 0 rfl) ?_
    refine lv_iconst (v := 4) hx hb dL_law_926 (by decide) ?_
    refine lv_iadd hx hb dL_law_927 ?_
    refine lv_topi (fun f11 ef11 => ?_)
    obtain rfl : f11 = nI (6 * j + 4) := ef11.trans (nI_add (6 * j) 4)
    refine va_sld hx hb hX hbl hbA hS q4 dL_law_928 ?_
    refine lv_aload_n hx hb dL_law_929 rfl (lv_at hl 3 rfl) ?_
    refine lv_iload_n hx hb dL_law_930 rfl (lv_at hl 0 rfl) ?_
    refine lv_iconst (v := 5) hx hb dL_law_931 (by decide) ?_
    refine lv_iadd hx hb dL_law_932 ?_
    refine lv_topi (fun f12 ef12 => ?_)
    obtain rfl : f12 = nI (6 * j + 5) := ef12.trans (nI_add (6 * j) 5)
    refine va_sld hx hb hX hbl hbA hS q5 dL_law_933 ?_
    refine lv_if_eq (tgt := 941) hx hb dL_law_934 (by decide) (fun c13 => ?_) (fun c13 => ?_)
    · refine lv_iconst (v := 0) hx hb dL_law_941 (by decide) ?_
      refine cz_move C0 hA hN hK hST (xs ((nI (6 * j + 1)) : Int32).toNatClampNeg) (xs ((nI (6 * j + 2)) : Int32).toNatClampNeg) (xs ((nI (6 * j + 3)) : Int32).toNatClampNeg) (xs ((nI (6 * j + 4)) : Int32).toNatClampNeg) 0 (Or.inl rfl) q8 hZS hP2 hP1 hD2 hap.sy hS hl (fun r14 W2 H locs _hr hZS hP2 hP1 hD2 hap hS => ?_)
      have hap := hap.sy
      obtain ⟨n9, l9, hc9, hZS⟩ := hZS
      have hXS := hXS.imp (Q := PS _ _ (T + 1) _ _ _ _ _) (fun x0 x2 x5 x6 x8 x7 x9 x10 K L M h => ⟨h.1 n9 l9 hc9, h.2⟩)
      refine lv_pop hx hb dL_law_945 rfl ?_
      refine lv_goto (tgt := 1695) hx hb dL_law_946 (by decide) ?_
      exact kk H locs _ _ q9 q10 ⟨_, _, (T + 1), _, _, _, _, _, _, _, q11, hXS, hZS, hP1, hP2, hD1, hD2, hap⟩ hS
    · exact absurd c6 c13
  · refine lv_iconst (v := 1) hx hb dL_law_899 (by decide) ?_
    refine lv_goto (tgt := 904) hx hb dL_law_900 (by decide) ?_
    refine cx_move C0 hA hN hK hST (xs ((nI (6 * j + 1)) : Int32).toNatClampNeg) (xs ((nI (6 * j + 2)) : Int32).toNatClampNeg) (xs ((nI (6 * j + 3)) : Int32).toNatClampNeg) (xs ((nI (6 * j + 4)) : Int32).toNatClampNeg) 1 (Or.inr rfl) q6 q7 hZS.svhi hXS hP1 hP2 hD1 hap hS hl (fun r15 W1 H locs _hr hXS hP1 hP2 hD1 hap hS => ?_)
    refine lv_pop hx hb dL_law_907 rfl ?_
    refine lv_aload_n hx hb dL_law_908 rfl (lv_at hl 1 rfl) ?_
    refine lv_aload_n hx hb dL_law_909 rfl (lv_at hl 3 rfl) ?_
    refine lv_iload_n hx hb dL_law_910 rfl (lv_at hl 0 rfl) ?_
    refine lv_iconst (v := 1) hx hb dL_law_911 (by decide) ?_
    refine lv_iadd hx hb dL_law_912 ?_
    refine lv_topi (fun f16 ef16 => ?_)
    obtain rfl : f16 = nI (6 * j + 1) := ef16.trans (nI_add (6 * j) 1)
    refine va_sld hx hb hX hbl hbA hS q1 dL_law_913 ?_
    refine lv_aload_n hx hb dL_law_914 rfl (lv_at hl 3 rfl) ?_
    refine lv_iload_n hx hb dL_law_915 rfl (lv_at hl 0 rfl) ?_
    refine lv_iconst (v := 2) hx hb dL_law_916 (by decide) ?_
    refine lv_iadd hx hb dL_law_917 ?_
    refine lv_topi (fun f17 ef17 => ?_)
    obtain rfl : f17 = nI (6 * j + 2) := ef17.trans (nI_add (6 * j) 2)
    refine va_sld hx hb hX hbl hbA hS q2 dL_law_918 ?_
    refine lv_aload_n hx hb dL_law_919 rfl (lv_at hl 3 rfl) ?_
    refine lv_iload_n hx hb dL_law_920 rfl (lv_at hl 0 rfl) ?_
    refine lv_iconst (v := 3) hx hb dL_law_921 (by decide) ?_
    refine lv_iadd hx hb dL_law_922 ?_
    refine lv_topi (fun f18 ef18 => ?_)
    obtain rfl : f18 = nI (6 * j + 3) := ef18.trans (nI_add (6 * j) 3)
    refine va_sld hx hb hX hbl hbA hS q3 dL_law_923 ?_
    refine lv_aload_n hx hb dL_law_924 rfl (lv_at hl 3 rfl) ?_
    refine lv_iload_n hx hb dL_law_925 rfl (lv_at hl 0 rfl) ?_
    refine lv_iconst (v := 4) hx hb dL_law_926 (by decide) ?_
    refine lv_iadd hx hb dL_law_927 ?_
    refine lv_topi (fun f19 ef19 => ?_)
    obtain rfl : f19 = nI (6 * j + 4) := ef19.trans (nI_add (6 * j) 4)
    refine va_sld hx hb hX hbl hbA hS q4 dL_law_928 ?_
    refine lv_aload_n hx hb dL_law_929 rfl (lv_at hl 3 rfl) ?_
    refine lv_iload_n hx hb dL_law_930 rfl (lv_at hl 0 rfl) ?_
    refine lv_iconst (v := 5) hx hb dL_law_931 (by decide) ?_
    refine lv_iadd hx hb dL_law_932 ?_
    refine lv_topi (fun f20 ef20 => ?_)
    obtain rfl : f20 = nI (6 * j + 5) := ef20.trans (nI_add (6 * j) 5)
    refine va_sld hx hb hX hbl hbA hS q5 dL_law_933 ?_
    refine lv_if_eq (tgt := 941) hx hb dL_law_934 (by decide) (fun c21 => ?_) (fun c21 => ?_)
    · exact absurd c21 c6
    · refine lv_iconst (v := 1) hx hb dL_law_937 (by decide) ?_
      refine lv_goto (tgt := 942) hx hb dL_law_938 (by decide) ?_
      refine cz_move C0 hA hN hK hST (xs ((nI (6 * j + 1)) : Int32).toNatClampNeg) (xs ((nI (6 * j + 2)) : Int32).toNatClampNeg) (xs ((nI (6 * j + 3)) : Int32).toNatClampNeg) (xs ((nI (6 * j + 4)) : Int32).toNatClampNeg) 1 (Or.inr rfl) q8 hZS hP2 hP1 hD2 hap.sy hS hl (fun r22 W2 H locs _hr hZS hP2 hP1 hD2 hap hS => ?_)
      have hap := hap.sy
      obtain ⟨n9, l9, hc9, hZS⟩ := hZS
      have hXS := hXS.imp (Q := PS _ _ (T + 1) _ _ _ _ _) (fun x0 x2 x5 x6 x8 x7 x9 x10 K L M h => ⟨h.1 n9 l9 hc9, h.2⟩)
      refine lv_pop hx hb dL_law_945 rfl ?_
      refine lv_goto (tgt := 1695) hx hb dL_law_946 (by decide) ?_
      exact kk H locs _ _ q9 q10 ⟨_, _, (T + 1), _, _, _, _, _, _, _, q11, hXS, hZS, hP1, hP2, hD1, hD2, hap⟩ hS
set_option maxHeartbeats 4000000 in
set_option maxRecDepth 100000 in
theorem law_c17 {p : Program} {l : Launch} {e : Env} {s : State} {m : MethodId} {below : List Frame} {meth : Method} {c : Code} {b Ln : Nat} {xs : Nat → Int32} (C0 : lw_At p s m meth c b Ln xs) {D : va_G} {cy : Nat → ClassId} {A : Nat → Prop} (hA : ∀ q, s.heap.size ≤ q → A q) (hA2 : ∀ q, A q → s.heap.size ≤ q) (hbA : ¬ A b) (hN : NW s) (hK : va_K D vwCl (tysC cy) s) (hST : STAT A s) {xa za : Nat} {j : Nat} {H : Heap} {locs : List Loc} {cells slots : Nat} {ls : Array Slot} (hj : 6 * j + 6 ≤ Ln) (hLn : Ln ≤ 3072) (hc : cells + 720 ≤ 600000) (hs : slots + 4320 ≤ 7302250) (hLS : LSt D cy A xa za j H) (hS : va_S A s.heap H locs) (hl : lv_has ls 4 [(3, .int (nI (6 * j))), (2, .ref za), (1, .ref xa), (0, .ref b)]) (kk : ∀ (H1 : Heap) (locs1 : List Loc) (c1 s1 : Nat), c1 ≤ cells + 720 → s1 ≤ slots + 4320 → LSt D cy A xa za (j + 1) H1 → va_S A s.heap H1 locs1 → W p l e room_1 s m #[Value.ref b] below meth c H1 locs1 c1 s1 (lw_Z below #[Value.ref b] s) (F0 m 1695 ls [])) : W p l e room_1 s m #[Value.ref b] below meth c H locs cells slots (lw_Z below #[Value.ref b] s) (F0 m 949 ls []) := by
  obtain ⟨hx, hb, hr, hml, hown, hts, hX, hbl, hlocks, hgv⟩ := id C0
  have hg : ∀ w ∈ lw_good, w.before #[Value.ref b] s = true := fun w h => hts w (List.mem_filter.mp h).1
  have hown : s.vm.findClass RL = some m.cls := hown
  obtain ⟨n, n3, T, PK, PT, SX, SY, WH, W1, W2, hT, hXS, hZS, hP1, hP2, hD1, hD2, hap⟩ := hLS
  have q1 := inbN (6 * j + 1) Ln (by omega) (by omega)
  have q2 := inbN (6 * j + 2) Ln (by omega) (by omega)
  have q3 := inbN (6 * j + 3) Ln (by omega) (by omega)
  have q4 := inbN (6 * j + 4) Ln (by omega) (by omega)
  have q5 : (cells + 0) ≤ 600000 ∧ (slots + 0) ≤ 7302250 := ⟨by omega, by omega⟩
  have q6 : 0 ≤ T ∧ T ≤ 900000 := ⟨by omega, by omega⟩
  have q7 : ((cells + 0) + 0) ≤ 600000 ∧ ((slots + 0) + 0) ≤ 7302250 := ⟨by omega, by omega⟩
  have q8 : ((cells + 0) + 0) ≤ cells + 720 := by omega
  have q9 : ((slots + 0) + 0) ≤ slots + 4320 := by omega
  have q10 : 0 ≤ (T + 1) ∧ (T + 1) ≤ ((j + 1 : Nat) : Int) := ⟨by omega, by omega⟩
  refine lv_aload_n hx hb dL_law_949 rfl (lv_at hl 2 rfl) ?_
  refine lv_aload_n hx hb dL_law_950 rfl (lv_at hl 3 rfl) ?_
  refine lv_iload_n hx hb dL_law_951 rfl (lv_at hl 0 rfl) ?_
  refine lv_iconst (v := 1) hx hb dL_law_952 (by decide) ?_
  refine lv_iadd hx hb dL_law_953 ?_
  refine lv_topi (fun f1 ef1 => ?_)
  obtain rfl : f1 = nI (6 * j + 1) := ef1.trans (nI_add (6 * j) 1)
  refine va_sld hx hb hX hbl hbA hS q1 dL_law_954 ?_
  refine lv_aload_n hx hb dL_law_955 rfl (lv_at hl 3 rfl) ?_
  refine lv_iload_n hx hb dL_law_956 rfl (lv_at hl 0 rfl) ?_
  refine lv_iconst (v := 2) hx hb dL_law_957 (by decide) ?_
  refine lv_iadd hx hb dL_law_958 ?_
  refine lv_topi (fun f2 ef2 => ?_)
  obtain rfl : f2 = nI (6 * j + 2) := ef2.trans (nI_add (6 * j) 2)
  refine va_sld hx hb hX hbl hbA hS q2 dL_law_959 ?_
  refine lv_aload_n hx hb dL_law_960 rfl (lv_at hl 3 rfl) ?_
  refine lv_iload_n hx hb dL_law_961 rfl (lv_at hl 0 rfl) ?_
  refine lv_iconst (v := 3) hx hb dL_law_962 (by decide) ?_
  refine lv_iadd hx hb dL_law_963 ?_
  refine lv_topi (fun f3 ef3 => ?_)
  obtain rfl : f3 = nI (6 * j + 3) := ef3.trans (nI_add (6 * j) 3)
  refine va_sld hx hb hX hbl hbA hS q3 dL_law_964 ?_
  refine lv_aload_n hx hb dL_law_965 rfl (lv_at hl 3 rfl) ?_
  refine lv_iload_n hx hb dL_law_966 rfl (lv_at hl 0 rfl) ?_
  refine lv_iconst (v := 4) hx hb dL_law_967 (by decide) ?_
  refine lv_iadd hx hb dL_law_968 ?_
  refine lv_topi (fun f4 ef4 => ?_)
  obtain rfl : f4 = nI (6 * j + 4) := ef4.trans (nI_add (6 * j) 4)
  refine va_sld hx hb hX hbl hbA hS q4 dL_law_969 ?_
  refine lv_if_eq (tgt := 977) hx hb dL_law_970 (by decide) (fun c5 => ?_) (fun c5 => ?_)
  · refine lv_iconst (v := 0) hx hb dL_law_977 (by decide) ?_
    refine cx_lend C0 hA hN hK hST (xs ((nI (6 * j + 1)) : Int32).toNatClampNeg) (xs ((nI (6 * j + 2)) : Int32).toNatClampNeg) (xs ((nI (6 * j + 3)) : Int32).toNatClampNeg) 0 (Or.inl rfl) q5 q6 hZS.svhi hXS hP1 hP2 hD1 hap hS hl (fun r6 W1 H locs _hr hXS hP1 hP2 hD1 hap hS => ?_)
    refine lv_pop hx hb dL_law_981 rfl ?_
    refine lv_aload_n hx hb dL_law_982 rfl (lv_at hl 1 rfl) ?_
    refine lv_aload_n hx hb dL_law_983 rfl (lv_at hl 3 rfl) ?_
    refine lv_iload_n hx hb dL_law_984 rfl (lv_at hl 0 rfl) ?_
    refine lv_iconst (v := 1) hx hb dL_law_985 (by decide) ?_
    refine lv_iadd hx hb dL_law_986 ?_
    refine lv_topi (fun f7 ef7 => ?_)
    obtain rfl : f7 = nI (6 * j + 1) := ef7.trans (nI_add (6 * j) 1)
    refine va_sld hx hb hX hbl hbA hS q1 dL_law_987 ?_
    refine lv_aload_n hx hb dL_law_988 rfl (lv_at hl 3 rfl) ?_
    refine lv_iload_n hx hb dL_law_989 rfl (lv_at hl 0 rfl) ?_
    refine lv_iconst (v := 2) hx hb dL_law_990 (by decide) ?_
    refine lv_iadd hx hb dL_law_991 ?_
    refine lv_topi (fun f8 ef8 => ?_)
    obtain rfl : f8 = nI (6 * j + 2) := ef8.trans (nI_add (6 * j) 2)
    refine va_sld hx hb hX hbl hbA hS q2 dL_law_992 ?_
    refine lv_aload_n hx hb dL_law_993 rfl (lv_at hl 3 rfl) ?_
    refine lv_iload_n hx hb dL_law_994 rfl (lv_at hl 0 rfl) ?_
    refine lv_iconst (v := 3) hx hb dL_law_995 (by decide) ?_
    refine lv_iadd hx hb dL_law_996 ?_
    refine lv_topi (fun f9 ef9 => ?_)
    obtain rfl : f9 = nI (6 * j + 3) := ef9.trans (nI_add (6 * j) 3)
    refine va_sld hx hb hX hbl hbA hS q3 dL_law_997 ?_
    refine lv_aload_n hx hb dL_law_998 rfl (lv_at hl 3 rfl) ?_
    refine lv_iload_n hx hb dL_law_999 rfl (lv_at hl 0 rfl) ?_
    refine lv_iconst (v := 4) hx hb dL_law_1000 (by decide) ?_
    refine lv_iadd hx hb dL_law_1001 ?_
    refine lv_topi (fun f10 ef10 => ?_)
    obtain rfl : f10 = nI (6 * j + 4) := ef10.trans (nI_add (6 * j) 4)
    refine va_sld hx hb hX hbl hbA hS q4 dL_law_1002 ?_
    refine lv_if_eq (tgt := 1010) hx hb dL_law_1003 (by decide) (fun c11 => ?_) (fun c11 => ?_)
    · refine lv_iconst (v := 0) hx hb dL_law_1010 (by decide) ?_
      refine cz_lend C0 hA hN hK hST (xs ((nI (6 * j + 1)) : Int32).toNatClampNeg) (xs ((nI (6 * j + 2)) : Int32).toNatClampNeg) (xs ((nI (6 * j + 3)) : Int32).toNatClampNeg) 0 (Or.inl rfl) q7 hZS hP2 hP1 hD2 hap.sy hS hl (fun r12 W2 H locs _hr hZS hP2 hP1 hD2 hap hS => ?_)
      have hap := hap.sy
      have hXS := hXS.imp (Q := PS _ _ (T + 1) _ _ _ _ _) (fun x0 x2 x5 x6 x8 x7 x9 x10 K L M h => h)
      refine lv_pop hx hb dL_law_1014 rfl ?_
      refine lv_goto (tgt := 1695) hx hb dL_law_1015 (by decide) ?_
      exact kk H locs _ _ q8 q9 ⟨_, _, (T + 1), _, _, _, _, _, _, _, q10, hXS, hZS, hP1, hP2, hD1, hD2, hap⟩ hS
    · exact absurd c5 c11
  · refine lv_iconst (v := 1) hx hb dL_law_973 (by decide) ?_
    refine lv_goto (tgt := 978) hx hb dL_law_974 (by decide) ?_
    refine cx_lend C0 hA hN hK hST (xs ((nI (6 * j + 1)) : Int32).toNatClampNeg) (xs ((nI (6 * j + 2)) : Int32).toNatClampNeg) (xs ((nI (6 * j + 3)) : Int32).toNatClampNeg) 1 (Or.inr rfl) q5 q6 hZS.svhi hXS hP1 hP2 hD1 hap hS hl (fun r13 W1 H locs _hr hXS hP1 hP2 hD1 hap hS => ?_)
    refine lv_pop hx hb dL_law_981 rfl ?_
    refine lv_aload_n hx hb dL_law_982 rfl (lv_at hl 1 rfl) ?_
    refine lv_aload_n hx hb dL_law_983 rfl (lv_at hl 3 rfl) ?_
    refine lv_iload_n hx hb dL_law_984 rfl (lv_at hl 0 rfl) ?_
    refine lv_iconst (v := 1) hx hb dL_law_985 (by decide) ?_
    refine lv_iadd hx hb dL_law_986 ?_
    refine lv_topi (fun f14 ef14 => ?_)
    obtain rfl : f14 = nI (6 * j + 1) := ef14.trans (nI_add (6 * j) 1)
    refine va_sld hx hb hX hbl hbA hS q1 dL_law_987 ?_
    refine lv_aload_n hx hb dL_law_988 rfl (lv_at hl 3 rfl) ?_
    refine lv_iload_n hx hb dL_law_989 rfl (lv_at hl 0 rfl) ?_
    refine lv_iconst (v := 2) hx hb dL_law_990 (by decide) ?_
    refine lv_iadd hx hb dL_law_991 ?_
    refine lv_topi (fun f15 ef15 => ?_)
    obtain rfl : f15 = nI (6 * j + 2) := ef15.trans (nI_add (6 * j) 2)
    refine va_sld hx hb hX hbl hbA hS q2 dL_law_992 ?_
    refine lv_aload_n hx hb dL_law_993 rfl (lv_at hl 3 rfl) ?_
    refine lv_iload_n hx hb dL_law_994 rfl (lv_at hl 0 rfl) ?_
    refine lv_iconst (v := 3) hx hb dL_law_995 (by decide) ?_
    refine lv_iadd hx hb dL_law_996 ?_
    refine lv_topi (fun f16 ef16 => ?_)
    obtain rfl : f16 = nI (6 * j + 3) := ef16.trans (nI_add (6 * j) 3)
    refine va_sld hx hb hX hbl hbA hS q3 dL_law_997 ?_
    refine lv_aload_n hx hb dL_law_998 rfl (lv_at hl 3 rfl) ?_
    refine lv_iload_n hx hb dL_law_999 rfl (lv_at hl 0 rfl) ?_
    refine lv_iconst (v := 4) hx hb dL_law_1000 (by decide) ?_
    refine lv_iadd hx hb dL_law_1001 ?_
    refine lv_topi (fun f17 ef17 => ?_)
    obtain rfl : f17 = nI (6 * j + 4) := ef17.trans (nI_add (6 * j) 4)
    refine va_sld hx hb hX hbl hbA hS q4 dL_law_1002 ?_
    refine lv_if_eq (tgt := 1010) hx hb dL_law_1003 (by decide) (fun c18 => ?_) (fun c18 => ?_)
    · exact absurd c18 c5
    · refine lv_iconst (v := 1) hx hb dL_law_1006 (by decide) ?_
      refine lv_goto (tgt := 1011) hx hb dL_law_1007 (by decide) ?_
      refine cz_lend C0 hA hN hK hST (xs ((nI (6 * j + 1)) : Int32).toNatClampNeg) (xs ((nI (6 * j + 2)) : Int32).toNatClampNeg) (xs ((nI (6 * j + 3)) : Int32).toNatClampNeg) 1 (Or.inr rfl) q7 hZS hP2 hP1 hD2 hap.sy hS hl (fun r19 W2 H locs _hr hZS hP2 hP1 hD2 hap hS => ?_)
      have hap := hap.sy
      have hXS := hXS.imp (Q := PS _ _ (T + 1) _ _ _ _ _) (fun x0 x2 x5 x6 x8 x7 x9 x10 K L M h => h)
      refine lv_pop hx hb dL_law_1014 rfl ?_
      refine lv_goto (tgt := 1695) hx hb dL_law_1015 (by decide) ?_
      exact kk H locs _ _ q8 q9 ⟨_, _, (T + 1), _, _, _, _, _, _, _, q10, hXS, hZS, hP1, hP2, hD1, hD2, hap⟩ hS
set_option maxHeartbeats 4000000 in
set_option maxRecDepth 100000 in
theorem law_c18 {p : Program} {l : Launch} {e : Env} {s : State} {m : MethodId} {below : List Frame} {meth : Method} {c : Code} {b Ln : Nat} {xs : Nat → Int32} (C0 : lw_At p s m meth c b Ln xs) {D : va_G} {cy : Nat → ClassId} {A : Nat → Prop} (hA : ∀ q, s.heap.size ≤ q → A q) (hA2 : ∀ q, A q → s.heap.size ≤ q) (hbA : ¬ A b) (hN : NW s) (hK : va_K D vwCl (tysC cy) s) (hST : STAT A s) {xa za : Nat} {j : Nat} {H : Heap} {locs : List Loc} {cells slots : Nat} {ls : Array Slot} (hj : 6 * j + 6 ≤ Ln) (hLn : Ln ≤ 3072) (hc : cells + 720 ≤ 600000) (hs : slots + 4320 ≤ 7302250) (hLS : LSt D cy A xa za j H) (hS : va_S A s.heap H locs) (hl : lv_has ls 4 [(3, .int (nI (6 * j))), (2, .ref za), (1, .ref xa), (0, .ref b)]) (kk : ∀ (H1 : Heap) (locs1 : List Loc) (c1 s1 : Nat), c1 ≤ cells + 720 → s1 ≤ slots + 4320 → LSt D cy A xa za (j + 1) H1 → va_S A s.heap H1 locs1 → W p l e room_1 s m #[Value.ref b] below meth c H1 locs1 c1 s1 (lw_Z below #[Value.ref b] s) (F0 m 1695 ls [])) : W p l e room_1 s m #[Value.ref b] below meth c H locs cells slots (lw_Z below #[Value.ref b] s) (F0 m 1018 ls []) := by
  obtain ⟨hx, hb, hr, hml, hown, hts, hX, hbl, hlocks, hgv⟩ := id C0
  have hg : ∀ w ∈ lw_good, w.before #[Value.ref b] s = true := fun w h => hts w (List.mem_filter.mp h).1
  have hown : s.vm.findClass RL = some m.cls := hown
  obtain ⟨n, n3, T, PK, PT, SX, SY, WH, W1, W2, hT, hXS, hZS, hP1, hP2, hD1, hD2, hap⟩ := hLS
  have q1 := inbN (6 * j + 1) Ln (by omega) (by omega)
  have q2 : (cells + 0) ≤ 600000 ∧ (slots + 0) ≤ 7302250 := ⟨by omega, by omega⟩
  have q3 : 0 ≤ T ∧ T ≤ 900000 := ⟨by omega, by omega⟩
  have q4 : ((cells + 0) + 0) ≤ 600000 ∧ ((slots + 0) + 0) ≤ 7302250 := ⟨by omega, by omega⟩
  have q5 : ((cells + 0) + 0) ≤ cells + 720 := by omega
  have q6 : ((slots + 0) + 0) ≤ slots + 4320 := by omega
  have q7 : 0 ≤ (T + 1) ∧ (T + 1) ≤ ((j + 1 : Nat) : Int) := ⟨by omega, by omega⟩
  refine lv_aload_n hx hb dL_law_1018 rfl (lv_at hl 2 rfl) ?_
  refine lv_aload_n hx hb dL_law_1019 rfl (lv_at hl 3 rfl) ?_
  refine lv_iload_n hx hb dL_law_1020 rfl (lv_at hl 0 rfl) ?_
  refine lv_iconst (v := 1) hx hb dL_law_1021 (by decide) ?_
  refine lv_iadd hx hb dL_law_1022 ?_
  refine lv_topi (fun f1 ef1 => ?_)
  obtain rfl : f1 = nI (6 * j + 1) := ef1.trans (nI_add (6 * j) 1)
  refine va_sld hx hb hX hbl hbA hS q1 dL_law_1023 ?_
  refine cx_undo C0 hA hN hK hST (xs ((nI (6 * j + 1)) : Int32).toNatClampNeg) q2 q3 hZS.svhi hXS hP1 hP2 hD1 hap hS hl (fun r2 W1 H locs _hr hXS hP1 hP2 hD1 hap hS => ?_)
  refine lv_pop hx hb dL_law_1027 rfl ?_
  refine lv_aload_n hx hb dL_law_1028 rfl (lv_at hl 1 rfl) ?_
  refine lv_aload_n hx hb dL_law_1029 rfl (lv_at hl 3 rfl) ?_
  refine lv_iload_n hx hb dL_law_1030 rfl (lv_at hl 0 rfl) ?_
  refine lv_iconst (v := 1) hx hb dL_law_1031 (by decide) ?_
  refine lv_iadd hx hb dL_law_1032 ?_
  refine lv_topi (fun f3 ef3 => ?_)
  obtain rfl : f3 = nI (6 * j + 1) := ef3.trans (nI_add (6 * j) 1)
  refine va_sld hx hb hX hbl hbA hS q1 dL_law_1033 ?_
  refine cz_undo C0 hA hN hK hST (xs ((nI (6 * j + 1)) : Int32).toNatClampNeg) q4 hZS hP2 hP1 hD2 hap.sy hS hl (fun r4 W2 H locs _hr hZS hP2 hP1 hD2 hap hS => ?_)
  have hap := hap.sy
  have hXS := hXS.imp (Q := PS _ _ (T + 1) _ _ _ _ _) (fun x0 x2 x5 x6 x8 x7 x9 x10 K L M h => h)
  refine lv_pop hx hb dL_law_1037 rfl ?_
  refine lv_goto (tgt := 1695) hx hb dL_law_1038 (by decide) ?_
  exact kk H locs _ _ q5 q6 ⟨_, _, (T + 1), _, _, _, _, _, _, _, q7, hXS, hZS, hP1, hP2, hD1, hD2, hap⟩ hS
set_option maxHeartbeats 4000000 in
set_option maxRecDepth 100000 in
theorem law_c19 {p : Program} {l : Launch} {e : Env} {s : State} {m : MethodId} {below : List Frame} {meth : Method} {c : Code} {b Ln : Nat} {xs : Nat → Int32} (C0 : lw_At p s m meth c b Ln xs) {D : va_G} {cy : Nat → ClassId} {A : Nat → Prop} (hA : ∀ q, s.heap.size ≤ q → A q) (hA2 : ∀ q, A q → s.heap.size ≤ q) (hbA : ¬ A b) (hN : NW s) (hK : va_K D vwCl (tysC cy) s) (hST : STAT A s) {xa za : Nat} {j : Nat} {H : Heap} {locs : List Loc} {cells slots : Nat} {ls : Array Slot} (hj : 6 * j + 6 ≤ Ln) (hLn : Ln ≤ 3072) (hc : cells + 720 ≤ 600000) (hs : slots + 4320 ≤ 7302250) (hLS : LSt D cy A xa za j H) (hS : va_S A s.heap H locs) (hl : lv_has ls 4 [(3, .int (nI (6 * j))), (2, .ref za), (1, .ref xa), (0, .ref b)]) (kk : ∀ (H1 : Heap) (locs1 : List Loc) (c1 s1 : Nat), c1 ≤ cells + 720 → s1 ≤ slots + 4320 → LSt D cy A xa za (j + 1) H1 → va_S A s.heap H1 locs1 → W p l e room_1 s m #[Value.ref b] below meth c H1 locs1 c1 s1 (lw_Z below #[Value.ref b] s) (F0 m 1695 ls [])) : W p l e room_1 s m #[Value.ref b] below meth c H locs cells slots (lw_Z below #[Value.ref b] s) (F0 m 1041 ls []) := by
  obtain ⟨hx, hb, hr, hml, hown, hts, hX, hbl, hlocks, hgv⟩ := id C0
  have hg : ∀ w ∈ lw_good, w.before #[Value.ref b] s = true := fun w h => hts w (List.mem_filter.mp h).1
  have hown : s.vm.findClass RL = some m.cls := hown
  obtain ⟨n, n3, T, PK, PT, SX, SY, WH, W1, W2, hT, hXS, hZS, hP1, hP2, hD1, hD2, hap⟩ := hLS
  have q1 := inbN (6 * j + 1) Ln (by omega) (by omega)
  have q2 := inbN (6 * j + 2) Ln (by omega) (by omega)
  have q3 : (cells + 0) ≤ 600000 ∧ (slots + 0) ≤ 7302250 := ⟨by omega, by omega⟩
  have q4 : 0 ≤ T ∧ T ≤ 900000 := ⟨by omega, by omega⟩
  have q5 : ((cells + 0) + 0) ≤ 600000 ∧ ((slots + 0) + 0) ≤ 7302250 := ⟨by omega, by omega⟩
  have q6 : ((cells + 0) + 0) ≤ cells + 720 := by omega
  have q7 : ((slots + 0) + 0) ≤ slots + 4320 := by omega
  have q8 : 0 ≤ (T + 1) ∧ (T + 1) ≤ ((j + 1 : Nat) : Int) := ⟨by omega, by omega⟩
  refine lv_aload_n hx hb dL_law_1041 rfl (lv_at hl 2 rfl) ?_
  refine lv_aload_n hx hb dL_law_1042 rfl (lv_at hl 3 rfl) ?_
  refine lv_iload_n hx hb dL_law_1043 rfl (lv_at hl 0 rfl) ?_
  refine lv_iconst (v := 1) hx hb dL_law_1044 (by decide) ?_
  refine lv_iadd hx hb dL_law_1045 ?_
  refine lv_topi (fun f1 ef1 => ?_)
  obtain rfl : f1 = nI (6 * j + 1) := ef1.trans (nI_add (6 * j) 1)
  refine va_sld hx hb hX hbl hbA hS q1 dL_law_1046 ?_
  refine lv_aload_n hx hb dL_law_1047 rfl (lv_at hl 3 rfl) ?_
  refine lv_iload_n hx hb dL_law_1048 rfl (lv_at hl 0 rfl) ?_
  refine lv_iconst (v := 2) hx hb dL_law_1049 (by decide) ?_
  refine lv_iadd hx hb dL_law_1050 ?_
  refine lv_topi (fun f2 ef2 => ?_)
  obtain rfl : f2 = nI (6 * j + 2) := ef2.trans (nI_add (6 * j) 2)
  refine va_sld hx hb hX hbl hbA hS q2 dL_law_1051 ?_
  refine cx_end C0 hA hN hK hST (xs ((nI (6 * j + 1)) : Int32).toNatClampNeg) (xs ((nI (6 * j + 2)) : Int32).toNatClampNeg) q3 q4 hZS.svhi hXS hP1 hP2 hD1 hap hS hl (fun r3 W1 H locs _hr hXS hP1 hP2 hD1 hap hS => ?_)
  refine lv_pop hx hb dL_law_1055 rfl ?_
  refine lv_aload_n hx hb dL_law_1056 rfl (lv_at hl 1 rfl) ?_
  refine lv_aload_n hx hb dL_law_1057 rfl (lv_at hl 3 rfl) ?_
  refine lv_iload_n hx hb dL_law_1058 rfl (lv_at hl 0 rfl) ?_
  refine lv_iconst (v := 1) hx hb dL_law_1059 (by decide) ?_
  refine lv_iadd hx hb dL_law_1060 ?_
  refine lv_topi (fun f4 ef4 => ?_)
  obtain rfl : f4 = nI (6 * j + 1) := ef4.trans (nI_add (6 * j) 1)
  refine va_sld hx hb hX hbl hbA hS q1 dL_law_1061 ?_
  refine lv_aload_n hx hb dL_law_1062 rfl (lv_at hl 3 rfl) ?_
  refine lv_iload_n hx hb dL_law_1063 rfl (lv_at hl 0 rfl) ?_
  refine lv_iconst (v := 2) hx hb dL_law_1064 (by decide) ?_
  refine lv_iadd hx hb dL_law_1065 ?_
  refine lv_topi (fun f5 ef5 => ?_)
  obtain rfl : f5 = nI (6 * j + 2) := ef5.trans (nI_add (6 * j) 2)
  refine va_sld hx hb hX hbl hbA hS q2 dL_law_1066 ?_
  refine cz_end C0 hA hN hK hST (xs ((nI (6 * j + 1)) : Int32).toNatClampNeg) (xs ((nI (6 * j + 2)) : Int32).toNatClampNeg) q5 hZS hP2 hP1 hD2 hap.sy hS hl (fun r6 W2 H locs _hr hZS hP2 hP1 hD2 hap hS => ?_)
  have hap := hap.sy
  have hXS := hXS.imp (Q := PS _ _ (T + 1) _ _ _ _ _) (fun x0 x2 x5 x6 x8 x7 x9 x10 K L M h => h)
  refine lv_pop hx hb dL_law_1070 rfl ?_
  refine lv_goto (tgt := 1695) hx hb dL_law_1071 (by decide) ?_
  exact kk H locs _ _ q6 q7 ⟨_, _, (T + 1), _, _, _, _, _, _, _, q8, hXS, hZS, hP1, hP2, hD1, hD2, hap⟩ hS
set_option maxHeartbeats 4000000 in
set_option maxRecDepth 100000 in
theorem law_c20 {p : Program} {l : Launch} {e : Env} {s : State} {m : MethodId} {below : List Frame} {meth : Method} {c : Code} {b Ln : Nat} {xs : Nat → Int32} (C0 : lw_At p s m meth c b Ln xs) {D : va_G} {cy : Nat → ClassId} {A : Nat → Prop} (hA : ∀ q, s.heap.size ≤ q → A q) (hA2 : ∀ q, A q → s.heap.size ≤ q) (hbA : ¬ A b) (hN : NW s) (hK : va_K D vwCl (tysC cy) s) (hST : STAT A s) {xa za : Nat} {j : Nat} {H : Heap} {locs : List Loc} {cells slots : Nat} {ls : Array Slot} (hj : 6 * j + 6 ≤ Ln) (hLn : Ln ≤ 3072) (hc : cells + 720 ≤ 600000) (hs : slots + 4320 ≤ 7302250) (hLS : LSt D cy A xa za j H) (hS : va_S A s.heap H locs) (hl : lv_has ls 4 [(3, .int (nI (6 * j))), (2, .ref za), (1, .ref xa), (0, .ref b)]) (kk : ∀ (H1 : Heap) (locs1 : List Loc) (c1 s1 : Nat), c1 ≤ cells + 720 → s1 ≤ slots + 4320 → LSt D cy A xa za (j + 1) H1 → va_S A s.heap H1 locs1 → W p l e room_1 s m #[Value.ref b] below meth c H1 locs1 c1 s1 (lw_Z below #[Value.ref b] s) (F0 m 1695 ls [])) : W p l e room_1 s m #[Value.ref b] below meth c H locs cells slots (lw_Z below #[Value.ref b] s) (F0 m 1074 ls []) := by
  obtain ⟨hx, hb, hr, hml, hown, hts, hX, hbl, hlocks, hgv⟩ := id C0
  have hg : ∀ w ∈ lw_good, w.before #[Value.ref b] s = true := fun w h => hts w (List.mem_filter.mp h).1
  have hown : s.vm.findClass RL = some m.cls := hown
  obtain ⟨n, n3, T, PK, PT, SX, SY, WH, W1, W2, hT, hXS, hZS, hP1, hP2, hD1, hD2, hap⟩ := hLS
  have q1 := inbN (6 * j + 1) Ln (by omega) (by omega)
  have q2 : (cells + 720) ≤ 600000 ∧ (slots + 4320) ≤ 7302250 := ⟨by omega, by omega⟩
  have q3 : 0 ≤ T ∧ T ≤ 900000 := ⟨by omega, by omega⟩
  have q4 : ((cells + 720) + 0) ≤ 600000 ∧ ((slots + 4320) + 0) ≤ 7302250 := ⟨by omega, by omega⟩
  have q5 : ((cells + 720) + 0) ≤ cells + 720 := by omega
  have q6 : ((slots + 4320) + 0) ≤ slots + 4320 := by omega
  have q7 : 0 ≤ (T + 1) ∧ (T + 1) ≤ ((j + 1 : Nat) : Int) := ⟨by omega, by omega⟩
  refine lv_aload_n hx hb dL_law_1074 rfl (lv_at hl 2 rfl) ?_
  refine lv_aload_n hx hb dL_law_1075 rfl (lv_at hl 3 rfl) ?_
  refine lv_iload_n hx hb dL_law_1076 rfl (lv_at hl 0 rfl) ?_
  refine lv_iconst (v := 1) hx hb dL_law_1077 (by decide) ?_
  refine lv_iadd hx hb dL_law_1078 ?_
  refine lv_topi (fun f1 ef1 => ?_)
  obtain rfl : f1 = nI (6 * j + 1) := ef1.trans (nI_add (6 * j) 1)
  refine va_sld hx hb hX hbl hbA hS q1 dL_law_1079 ?_
  refine cx_close C0 hA hN hK hST (xs ((nI (6 * j + 1)) : Int32).toNatClampNeg) q2 q3 hZS.svhi hXS hP1 hP2 hD1 hap hS hl (fun r2 W1 H locs _hr hXS hP1 hP2 hD1 hap hS => ?_)
  refine lv_pop hx hb dL_law_1083 rfl ?_
  refine lv_aload_n hx hb dL_law_1084 rfl (lv_at hl 1 rfl) ?_
  refine lv_aload_n hx hb dL_law_1085 rfl (lv_at hl 3 rfl) ?_
  refine lv_iload_n hx hb dL_law_1086 rfl (lv_at hl 0 rfl) ?_
  refine lv_iconst (v := 1) hx hb dL_law_1087 (by decide) ?_
  refine lv_iadd hx hb dL_law_1088 ?_
  refine lv_topi (fun f3 ef3 => ?_)
  obtain rfl : f3 = nI (6 * j + 1) := ef3.trans (nI_add (6 * j) 1)
  refine va_sld hx hb hX hbl hbA hS q1 dL_law_1089 ?_
  refine cz_close C0 hA hN hK hST (xs ((nI (6 * j + 1)) : Int32).toNatClampNeg) q4 hZS hP2 hP1 hD2 hap.sy hS hl (fun r4 W2 H locs _hr hZS hP2 hP1 hD2 hap hS => ?_)
  have hap := hap.sy
  obtain ⟨v5, hv5, hZS⟩ := hZS
  obtain ⟨X9, Y9, hc9, hZS⟩ := hZS
  have hXS := hXS.imp (Q := PS _ _ (T + 1) _ _ _ _ v5) (fun x0 x2 x5 x6 x8 x7 x9 x10 K L M h => ⟨h.1 X9 Y9 hc9, h.2.1, h.2.2.un hv5⟩)
  refine lv_pop hx hb dL_law_1093 rfl ?_
  refine lv_goto (tgt := 1695) hx hb dL_law_1094 (by decide) ?_
  exact kk H locs _ _ q5 q6 ⟨_, _, (T + 1), _, _, _, _, _, _, _, q7, hXS, hZS, hP1, hP2, hD1, hD2, hap⟩ hS
set_option maxHeartbeats 4000000 in
set_option maxRecDepth 100000 in
theorem law_c21 {p : Program} {l : Launch} {e : Env} {s : State} {m : MethodId} {below : List Frame} {meth : Method} {c : Code} {b Ln : Nat} {xs : Nat → Int32} (C0 : lw_At p s m meth c b Ln xs) {D : va_G} {cy : Nat → ClassId} {A : Nat → Prop} (hA : ∀ q, s.heap.size ≤ q → A q) (hA2 : ∀ q, A q → s.heap.size ≤ q) (hbA : ¬ A b) (hN : NW s) (hK : va_K D vwCl (tysC cy) s) (hST : STAT A s) {xa za : Nat} {j : Nat} {H : Heap} {locs : List Loc} {cells slots : Nat} {ls : Array Slot} (hj : 6 * j + 6 ≤ Ln) (hLn : Ln ≤ 3072) (hc : cells + 720 ≤ 600000) (hs : slots + 4320 ≤ 7302250) (hLS : LSt D cy A xa za j H) (hS : va_S A s.heap H locs) (hl : lv_has ls 4 [(3, .int (nI (6 * j))), (2, .ref za), (1, .ref xa), (0, .ref b)]) (kk : ∀ (H1 : Heap) (locs1 : List Loc) (c1 s1 : Nat), c1 ≤ cells + 720 → s1 ≤ slots + 4320 → LSt D cy A xa za (j + 1) H1 → va_S A s.heap H1 locs1 → W p l e room_1 s m #[Value.ref b] below meth c H1 locs1 c1 s1 (lw_Z below #[Value.ref b] s) (F0 m 1695 ls [])) : W p l e room_1 s m #[Value.ref b] below meth c H locs cells slots (lw_Z below #[Value.ref b] s) (F0 m 1097 ls []) := by
  obtain ⟨hx, hb, hr, hml, hown, hts, hX, hbl, hlocks, hgv⟩ := id C0
  have hg : ∀ w ∈ lw_good, w.before #[Value.ref b] s = true := fun w h => hts w (List.mem_filter.mp h).1
  have hown : s.vm.findClass RL = some m.cls := hown
  obtain ⟨n, n3, T, PK, PT, SX, SY, WH, W1, W2, hT, hXS, hZS, hP1, hP2, hD1, hD2, hap⟩ := hLS
  have q1 := inbN (6 * j + 1) Ln (by omega) (by omega)
  have q2 := inbN (6 * j + 2) Ln (by omega) (by omega)
  have q3 := inbN (6 * j + 3) Ln (by omega) (by omega)
  have q4 : (cells + 0) ≤ 600000 ∧ (slots + 0) ≤ 7302250 := ⟨by omega, by omega⟩
  have q5 : 0 ≤ T ∧ T ≤ 900000 := ⟨by omega, by omega⟩
  have q6 : ((cells + 0) + 0) ≤ 600000 ∧ ((slots + 0) + 0) ≤ 7302250 := ⟨by omega, by omega⟩
  have q7 : ((cells + 0) + 0) ≤ cells + 720 := by omega
  have q8 : ((slots + 0) + 0) ≤ slots + 4320 := by omega
  have q9 : 0 ≤ (T + 1) ∧ (T + 1) ≤ ((j + 1 : Nat) : Int) := ⟨by omega, by omega⟩
  refine lv_aload_n hx hb dL_law_1097 rfl (lv_at hl 2 rfl) ?_
  refine lv_aload_n hx hb dL_law_1098 rfl (lv_at hl 3 rfl) ?_
  refine lv_iload_n hx hb dL_law_1099 rfl (lv_at hl 0 rfl) ?_
  refine lv_iconst (v := 1) hx hb dL_law_1100 (by decide) ?_
  refine lv_iadd hx hb dL_law_1101 ?_
  refine lv_topi (fun f1 ef1 => ?_)
  obtain rfl : f1 = nI (6 * j + 1) := ef1.trans (nI_add (6 * j) 1)
  refine va_sld hx hb hX hbl hbA hS q1 dL_law_1102 ?_
  refine lv_aload_n hx hb dL_law_1103 rfl (lv_at hl 3 rfl) ?_
  refine lv_iload_n hx hb dL_law_1104 rfl (lv_at hl 0 rfl) ?_
  refine lv_iconst (v := 2) hx hb dL_law_1105 (by decide) ?_
  refine lv_iadd hx hb dL_law_1106 ?_
  refine lv_topi (fun f2 ef2 => ?_)
  obtain rfl : f2 = nI (6 * j + 2) := ef2.trans (nI_add (6 * j) 2)
  refine va_sld hx hb hX hbl hbA hS q2 dL_law_1107 ?_
  refine lv_aload_n hx hb dL_law_1108 rfl (lv_at hl 3 rfl) ?_
  refine lv_iload_n hx hb dL_law_1109 rfl (lv_at hl 0 rfl) ?_
  refine lv_iconst (v := 3) hx hb dL_law_1110 (by decide) ?_
  refine lv_iadd hx hb dL_law_1111 ?_
  refine lv_topi (fun f3 ef3 => ?_)
  obtain rfl : f3 = nI (6 * j + 3) := ef3.trans (nI_add (6 * j) 3)
  refine va_sld hx hb hX hbl hbA hS q3 dL_law_1112 ?_
  refine cx_mend C0 hA hN hK hST (xs ((nI (6 * j + 1)) : Int32).toNatClampNeg) (xs ((nI (6 * j + 2)) : Int32).toNatClampNeg) (xs ((nI (6 * j + 3)) : Int32).toNatClampNeg) q4 q5 hZS.svhi hXS hP1 hP2 hD1 hap hS hl (fun r4 W1 H locs _hr hXS hP1 hP2 hD1 hap hS => ?_)
  refine lv_pop hx hb dL_law_1116 rfl ?_
  refine lv_aload_n hx hb dL_law_1117 rfl (lv_at hl 1 rfl) ?_
  refine lv_aload_n hx hb dL_law_1118 rfl (lv_at hl 3 rfl) ?_
  refine lv_iload_n hx hb dL_law_1119 rfl (lv_at hl 0 rfl) ?_
  refine lv_iconst (v := 1) hx hb dL_law_1120 (by decide) ?_
  refine lv_iadd hx hb dL_law_1121 ?_
  refine lv_topi (fun f5 ef5 => ?_)
  obtain rfl : f5 = nI (6 * j + 1) := ef5.trans (nI_add (6 * j) 1)
  refine va_sld hx hb hX hbl hbA hS q1 dL_law_1122 ?_
  refine lv_aload_n hx hb dL_law_1123 rfl (lv_at hl 3 rfl) ?_
  refine lv_iload_n hx hb dL_law_1124 rfl (lv_at hl 0 rfl) ?_
  refine lv_iconst (v := 2) hx hb dL_law_1125 (by decide) ?_
  refine lv_iadd hx hb dL_law_1126 ?_
  refine lv_topi (fun f6 ef6 => ?_)
  obtain rfl : f6 = nI (6 * j + 2) := ef6.trans (nI_add (6 * j) 2)
  refine va_sld hx hb hX hbl hbA hS q2 dL_law_1127 ?_
  refine lv_aload_n hx hb dL_law_1128 rfl (lv_at hl 3 rfl) ?_
  refine lv_iload_n hx hb dL_law_1129 rfl (lv_at hl 0 rfl) ?_
  refine lv_iconst (v := 3) hx hb dL_law_1130 (by decide) ?_
  refine lv_iadd hx hb dL_law_1131 ?_
  refine lv_topi (fun f7 ef7 => ?_)
  obtain rfl : f7 = nI (6 * j + 3) := ef7.trans (nI_add (6 * j) 3)
  refine va_sld hx hb hX hbl hbA hS q3 dL_law_1132 ?_
  refine cz_mend C0 hA hN hK hST (xs ((nI (6 * j + 1)) : Int32).toNatClampNeg) (xs ((nI (6 * j + 2)) : Int32).toNatClampNeg) (xs ((nI (6 * j + 3)) : Int32).toNatClampNeg) q6 hZS hP2 hP1 hD2 hap.sy hS hl (fun r8 W2 H locs _hr hZS hP2 hP1 hD2 hap hS => ?_)
  have hap := hap.sy
  have hXS := hXS.imp (Q := PS _ _ (T + 1) _ _ _ _ _) (fun x0 x2 x5 x6 x8 x7 x9 x10 K L M h => h)
  refine lv_pop hx hb dL_law_1136 rfl ?_
  refine lv_goto (tgt := 1695) hx hb dL_law_1137 (by decide) ?_
  exact kk H locs _ _ q7 q8 ⟨_, _, (T + 1), _, _, _, _, _, _, _, q9, hXS, hZS, hP1, hP2, hD1, hD2, hap⟩ hS
set_option maxHeartbeats 4000000 in
set_option maxRecDepth 100000 in
theorem law_c22 {p : Program} {l : Launch} {e : Env} {s : State} {m : MethodId} {below : List Frame} {meth : Method} {c : Code} {b Ln : Nat} {xs : Nat → Int32} (C0 : lw_At p s m meth c b Ln xs) {D : va_G} {cy : Nat → ClassId} {A : Nat → Prop} (hA : ∀ q, s.heap.size ≤ q → A q) (hA2 : ∀ q, A q → s.heap.size ≤ q) (hbA : ¬ A b) (hN : NW s) (hK : va_K D vwCl (tysC cy) s) (hST : STAT A s) {xa za : Nat} {j : Nat} {H : Heap} {locs : List Loc} {cells slots : Nat} {ls : Array Slot} (hj : 6 * j + 6 ≤ Ln) (hLn : Ln ≤ 3072) (hc : cells + 720 ≤ 600000) (hs : slots + 4320 ≤ 7302250) (hLS : LSt D cy A xa za j H) (hS : va_S A s.heap H locs) (hl : lv_has ls 4 [(3, .int (nI (6 * j))), (2, .ref za), (1, .ref xa), (0, .ref b)]) (kk : ∀ (H1 : Heap) (locs1 : List Loc) (c1 s1 : Nat), c1 ≤ cells + 720 → s1 ≤ slots + 4320 → LSt D cy A xa za (j + 1) H1 → va_S A s.heap H1 locs1 → W p l e room_1 s m #[Value.ref b] below meth c H1 locs1 c1 s1 (lw_Z below #[Value.ref b] s) (F0 m 1695 ls [])) : W p l e room_1 s m #[Value.ref b] below meth c H locs cells slots (lw_Z below #[Value.ref b] s) (F0 m 1140 ls []) := by
  obtain ⟨hx, hb, hr, hml, hown, hts, hX, hbl, hlocks, hgv⟩ := id C0
  have hg : ∀ w ∈ lw_good, w.before #[Value.ref b] s = true := fun w h => hts w (List.mem_filter.mp h).1
  have hown : s.vm.findClass RL = some m.cls := hown
  obtain ⟨n, n3, T, PK, PT, SX, SY, WH, W1, W2, hT, hXS, hZS, hP1, hP2, hD1, hD2, hap⟩ := hLS
  have q1 := inbN (6 * j + 1) Ln (by omega) (by omega)
  have q2 := inbN (6 * j + 2) Ln (by omega) (by omega)
  have q3 := inbN (6 * j + 3) Ln (by omega) (by omega)
  have q4 : (cells + 0) ≤ 600000 ∧ (slots + 0) ≤ 7302250 := ⟨by omega, by omega⟩
  have q5 : 0 ≤ T ∧ T ≤ 900000 := ⟨by omega, by omega⟩
  have q6 : ((cells + 0) + 0) ≤ 600000 ∧ ((slots + 0) + 0) ≤ 7302250 := ⟨by omega, by omega⟩
  have q7 : ((cells + 0) + 0) ≤ cells + 720 := by omega
  have q8 : ((slots + 0) + 0) ≤ slots + 4320 := by omega
  have q9 : 0 ≤ (T + 1) ∧ (T + 1) ≤ ((j + 1 : Nat) : Int) := ⟨by omega, by omega⟩
  refine lv_aload_n hx hb dL_law_1140 rfl (lv_at hl 2 rfl) ?_
  refine lv_aload_n hx hb dL_law_1141 rfl (lv_at hl 3 rfl) ?_
  refine lv_iload_n hx hb dL_law_1142 rfl (lv_at hl 0 rfl) ?_
  refine lv_iconst (v := 1) hx hb dL_law_1143 (by decide) ?_
  refine lv_iadd hx hb dL_law_1144 ?_
  refine lv_topi (fun f1 ef1 => ?_)
  obtain rfl : f1 = nI (6 * j + 1) := ef1.trans (nI_add (6 * j) 1)
  refine va_sld hx hb hX hbl hbA hS q1 dL_law_1145 ?_
  refine lv_aload_n hx hb dL_law_1146 rfl (lv_at hl 3 rfl) ?_
  refine lv_iload_n hx hb dL_law_1147 rfl (lv_at hl 0 rfl) ?_
  refine lv_iconst (v := 2) hx hb dL_law_1148 (by decide) ?_
  refine lv_iadd hx hb dL_law_1149 ?_
  refine lv_topi (fun f2 ef2 => ?_)
  obtain rfl : f2 = nI (6 * j + 2) := ef2.trans (nI_add (6 * j) 2)
  refine va_sld hx hb hX hbl hbA hS q2 dL_law_1150 ?_
  refine lv_aload_n hx hb dL_law_1151 rfl (lv_at hl 3 rfl) ?_
  refine lv_iload_n hx hb dL_law_1152 rfl (lv_at hl 0 rfl) ?_
  refine lv_iconst (v := 3) hx hb dL_law_1153 (by decide) ?_
  refine lv_iadd hx hb dL_law_1154 ?_
  refine lv_topi (fun f3 ef3 => ?_)
  obtain rfl : f3 = nI (6 * j + 3) := ef3.trans (nI_add (6 * j) 3)
  refine va_sld hx hb hX hbl hbA hS q3 dL_law_1155 ?_
  refine cx_hidden C0 hA hN hK hST (xs ((nI (6 * j + 1)) : Int32).toNatClampNeg) (xs ((nI (6 * j + 2)) : Int32).toNatClampNeg) (xs ((nI (6 * j + 3)) : Int32).toNatClampNeg) q4 q5 hZS.svhi hXS hP1 hP2 hD1 hap hS hl (fun r4 W1 H locs hXS hP1 hP2 hD1 hap hS => ?_)
  refine lv_pop hx hb dL_law_1159 rfl ?_
  refine lv_aload_n hx hb dL_law_1160 rfl (lv_at hl 1 rfl) ?_
  refine lv_aload_n hx hb dL_law_1161 rfl (lv_at hl 3 rfl) ?_
  refine lv_iload_n hx hb dL_law_1162 rfl (lv_at hl 0 rfl) ?_
  refine lv_iconst (v := 1) hx hb dL_law_1163 (by decide) ?_
  refine lv_iadd hx hb dL_law_1164 ?_
  refine lv_topi (fun f5 ef5 => ?_)
  obtain rfl : f5 = nI (6 * j + 1) := ef5.trans (nI_add (6 * j) 1)
  refine va_sld hx hb hX hbl hbA hS q1 dL_law_1165 ?_
  refine lv_aload_n hx hb dL_law_1166 rfl (lv_at hl 3 rfl) ?_
  refine lv_iload_n hx hb dL_law_1167 rfl (lv_at hl 0 rfl) ?_
  refine lv_iconst (v := 2) hx hb dL_law_1168 (by decide) ?_
  refine lv_iadd hx hb dL_law_1169 ?_
  refine lv_topi (fun f6 ef6 => ?_)
  obtain rfl : f6 = nI (6 * j + 2) := ef6.trans (nI_add (6 * j) 2)
  refine va_sld hx hb hX hbl hbA hS q2 dL_law_1170 ?_
  refine lv_aload_n hx hb dL_law_1171 rfl (lv_at hl 3 rfl) ?_
  refine lv_iload_n hx hb dL_law_1172 rfl (lv_at hl 0 rfl) ?_
  refine lv_iconst (v := 3) hx hb dL_law_1173 (by decide) ?_
  refine lv_iadd hx hb dL_law_1174 ?_
  refine lv_topi (fun f7 ef7 => ?_)
  obtain rfl : f7 = nI (6 * j + 3) := ef7.trans (nI_add (6 * j) 3)
  refine va_sld hx hb hX hbl hbA hS q3 dL_law_1175 ?_
  refine cz_hidden C0 hA hN hK hST (xs ((nI (6 * j + 1)) : Int32).toNatClampNeg) (xs ((nI (6 * j + 2)) : Int32).toNatClampNeg) (xs ((nI (6 * j + 3)) : Int32).toNatClampNeg) q6 hZS hP2 hP1 hD2 hap.sy hS hl (fun r8 W2 H locs hZS hP2 hP1 hD2 hap hS => ?_)
  have hap := hap.sy
  have hXS := hXS.imp (Q := PS _ _ (T + 1) _ _ _ _ _) (fun x0 x2 x5 x6 x8 x7 x9 x10 K L M h => h)
  refine lv_pop hx hb dL_law_1179 rfl ?_
  refine lv_goto (tgt := 1695) hx hb dL_law_1180 (by decide) ?_
  exact kk H locs _ _ q7 q8 ⟨_, _, (T + 1), _, _, _, _, _, _, _, q9, hXS, hZS, hP1, hP2, hD1, hD2, hap⟩ hS
set_option maxHeartbeats 4000000 in
set_option maxRecDepth 100000 in
theorem law_c23 {p : Program} {l : Launch} {e : Env} {s : State} {m : MethodId} {below : List Frame} {meth : Method} {c : Code} {b Ln : Nat} {xs : Nat → Int32} (C0 : lw_At p s m meth c b Ln xs) {D : va_G} {cy : Nat → ClassId} {A : Nat → Prop} (hA : ∀ q, s.heap.size ≤ q → A q) (hA2 : ∀ q, A q → s.heap.size ≤ q) (hbA : ¬ A b) (hN : NW s) (hK : va_K D vwCl (tysC cy) s) (hST : STAT A s) {xa za : Nat} {j : Nat} {H : Heap} {locs : List Loc} {cells slots : Nat} {ls : Array Slot} (hj : 6 * j + 6 ≤ Ln) (hLn : Ln ≤ 3072) (hc : cells + 720 ≤ 600000) (hs : slots + 4320 ≤ 7302250) (hLS : LSt D cy A xa za j H) (hS : va_S A s.heap H locs) (hl : lv_has ls 4 [(3, .int (nI (6 * j))), (2, .ref za), (1, .ref xa), (0, .ref b)]) (kk : ∀ (H1 : Heap) (locs1 : List Loc) (c1 s1 : Nat), c1 ≤ cells + 720 → s1 ≤ slots + 4320 → LSt D cy A xa za (j + 1) H1 → va_S A s.heap H1 locs1 → W p l e room_1 s m #[Value.ref b] below meth c H1 locs1 c1 s1 (lw_Z below #[Value.ref b] s) (F0 m 1695 ls [])) : W p l e room_1 s m #[Value.ref b] below meth c H locs cells slots (lw_Z below #[Value.ref b] s) (F0 m 1183 ls []) := by
  obtain ⟨hx, hb, hr, hml, hown, hts, hX, hbl, hlocks, hgv⟩ := id C0
  have hg : ∀ w ∈ lw_good, w.before #[Value.ref b] s = true := fun w h => hts w (List.mem_filter.mp h).1
  have hown : s.vm.findClass RL = some m.cls := hown
  obtain ⟨n, n3, T, PK, PT, SX, SY, WH, W1, W2, hT, hXS, hZS, hP1, hP2, hD1, hD2, hap⟩ := hLS
  have q1 := inbN (6 * j + 1) Ln (by omega) (by omega)
  have q2 := inbN (6 * j + 2) Ln (by omega) (by omega)
  have q3 := inbN (6 * j + 3) Ln (by omega) (by omega)
  have q4 : (cells + 0) ≤ 600000 ∧ (slots + 0) ≤ 7302250 := ⟨by omega, by omega⟩
  have q5 : 0 ≤ T ∧ T ≤ 900000 := ⟨by omega, by omega⟩
  have q6 : ((cells + 0) + 0) ≤ 600000 ∧ ((slots + 0) + 0) ≤ 7302250 := ⟨by omega, by omega⟩
  have q7 : ((cells + 0) + 0) ≤ cells + 720 := by omega
  have q8 : ((slots + 0) + 0) ≤ slots + 4320 := by omega
  have q9 : 0 ≤ (T + 1) ∧ (T + 1) ≤ ((j + 1 : Nat) : Int) := ⟨by omega, by omega⟩
  refine lv_aload_n hx hb dL_law_1183 rfl (lv_at hl 2 rfl) ?_
  refine lv_aload_n hx hb dL_law_1184 rfl (lv_at hl 3 rfl) ?_
  refine lv_iload_n hx hb dL_law_1185 rfl (lv_at hl 0 rfl) ?_
  refine lv_iconst (v := 1) hx hb dL_law_1186 (by decide) ?_
  refine lv_iadd hx hb dL_law_1187 ?_
  refine lv_topi (fun f1 ef1 => ?_)
  obtain rfl : f1 = nI (6 * j + 1) := ef1.trans (nI_add (6 * j) 1)
  refine va_sld hx hb hX hbl hbA hS q1 dL_law_1188 ?_
  refine lv_aload_n hx hb dL_law_1189 rfl (lv_at hl 3 rfl) ?_
  refine lv_iload_n hx hb dL_law_1190 rfl (lv_at hl 0 rfl) ?_
  refine lv_iconst (v := 2) hx hb dL_law_1191 (by decide) ?_
  refine lv_iadd hx hb dL_law_1192 ?_
  refine lv_topi (fun f2 ef2 => ?_)
  obtain rfl : f2 = nI (6 * j + 2) := ef2.trans (nI_add (6 * j) 2)
  refine va_sld hx hb hX hbl hbA hS q2 dL_law_1193 ?_
  refine lv_aload_n hx hb dL_law_1194 rfl (lv_at hl 3 rfl) ?_
  refine lv_iload_n hx hb dL_law_1195 rfl (lv_at hl 0 rfl) ?_
  refine lv_iconst (v := 3) hx hb dL_law_1196 (by decide) ?_
  refine lv_iadd hx hb dL_law_1197 ?_
  refine lv_topi (fun f3 ef3 => ?_)
  obtain rfl : f3 = nI (6 * j + 3) := ef3.trans (nI_add (6 * j) 3)
  refine va_sld hx hb hX hbl hbA hS q3 dL_law_1198 ?_
  refine cx_bear C0 hA hN hK hST (xs ((nI (6 * j + 1)) : Int32).toNatClampNeg) (xs ((nI (6 * j + 2)) : Int32).toNatClampNeg) (xs ((nI (6 * j + 3)) : Int32).toNatClampNeg) q4 q5 hZS.svhi hXS hP1 hP2 hD1 hap hS hl (fun r4 W1 H locs hXS hP1 hP2 hD1 hap hS => ?_)
  refine lv_pop hx hb dL_law_1202 rfl ?_
  refine lv_aload_n hx hb dL_law_1203 rfl (lv_at hl 1 rfl) ?_
  refine lv_aload_n hx hb dL_law_1204 rfl (lv_at hl 3 rfl) ?_
  refine lv_iload_n hx hb dL_law_1205 rfl (lv_at hl 0 rfl) ?_
  refine lv_iconst (v := 1) hx hb dL_law_1206 (by decide) ?_
  refine lv_iadd hx hb dL_law_1207 ?_
  refine lv_topi (fun f5 ef5 => ?_)
  obtain rfl : f5 = nI (6 * j + 1) := ef5.trans (nI_add (6 * j) 1)
  refine va_sld hx hb hX hbl hbA hS q1 dL_law_1208 ?_
  refine lv_aload_n hx hb dL_law_1209 rfl (lv_at hl 3 rfl) ?_
  refine lv_iload_n hx hb dL_law_1210 rfl (lv_at hl 0 rfl) ?_
  refine lv_iconst (v := 2) hx hb dL_law_1211 (by decide) ?_
  refine lv_iadd hx hb dL_law_1212 ?_
  refine lv_topi (fun f6 ef6 => ?_)
  obtain rfl : f6 = nI (6 * j + 2) := ef6.trans (nI_add (6 * j) 2)
  refine va_sld hx hb hX hbl hbA hS q2 dL_law_1213 ?_
  refine lv_aload_n hx hb dL_law_1214 rfl (lv_at hl 3 rfl) ?_
  refine lv_iload_n hx hb dL_law_1215 rfl (lv_at hl 0 rfl) ?_
  refine lv_iconst (v := 3) hx hb dL_law_1216 (by decide) ?_
  refine lv_iadd hx hb dL_law_1217 ?_
  refine lv_topi (fun f7 ef7 => ?_)
  obtain rfl : f7 = nI (6 * j + 3) := ef7.trans (nI_add (6 * j) 3)
  refine va_sld hx hb hX hbl hbA hS q3 dL_law_1218 ?_
  refine cz_bear C0 hA hN hK hST (xs ((nI (6 * j + 1)) : Int32).toNatClampNeg) (xs ((nI (6 * j + 2)) : Int32).toNatClampNeg) (xs ((nI (6 * j + 3)) : Int32).toNatClampNeg) q6 hZS hP2 hP1 hD2 hap.sy hS hl (fun r8 W2 H locs hZS hP2 hP1 hD2 hap hS => ?_)
  have hap := hap.sy
  have hXS := hXS.imp (Q := PS _ _ (T + 1) _ _ _ _ _) (fun x0 x2 x5 x6 x8 x7 x9 x10 K L M h => h)
  refine lv_pop hx hb dL_law_1222 rfl ?_
  refine lv_goto (tgt := 1695) hx hb dL_law_1223 (by decide) ?_
  exact kk H locs _ _ q7 q8 ⟨_, _, (T + 1), _, _, _, _, _, _, _, q9, hXS, hZS, hP1, hP2, hD1, hD2, hap⟩ hS
set_option maxHeartbeats 4000000 in
set_option maxRecDepth 100000 in
theorem law_c24 {p : Program} {l : Launch} {e : Env} {s : State} {m : MethodId} {below : List Frame} {meth : Method} {c : Code} {b Ln : Nat} {xs : Nat → Int32} (C0 : lw_At p s m meth c b Ln xs) {D : va_G} {cy : Nat → ClassId} {A : Nat → Prop} (hA : ∀ q, s.heap.size ≤ q → A q) (hA2 : ∀ q, A q → s.heap.size ≤ q) (hbA : ¬ A b) (hN : NW s) (hK : va_K D vwCl (tysC cy) s) (hST : STAT A s) {xa za : Nat} {j : Nat} {H : Heap} {locs : List Loc} {cells slots : Nat} {ls : Array Slot} (hj : 6 * j + 6 ≤ Ln) (hLn : Ln ≤ 3072) (hc : cells + 720 ≤ 600000) (hs : slots + 4320 ≤ 7302250) (hLS : LSt D cy A xa za j H) (hS : va_S A s.heap H locs) (hl : lv_has ls 4 [(3, .int (nI (6 * j))), (2, .ref za), (1, .ref xa), (0, .ref b)]) (kk : ∀ (H1 : Heap) (locs1 : List Loc) (c1 s1 : Nat), c1 ≤ cells + 720 → s1 ≤ slots + 4320 → LSt D cy A xa za (j + 1) H1 → va_S A s.heap H1 locs1 → W p l e room_1 s m #[Value.ref b] below meth c H1 locs1 c1 s1 (lw_Z below #[Value.ref b] s) (F0 m 1695 ls [])) : W p l e room_1 s m #[Value.ref b] below meth c H locs cells slots (lw_Z below #[Value.ref b] s) (F0 m 1226 ls []) := by
  obtain ⟨hx, hb, hr, hml, hown, hts, hX, hbl, hlocks, hgv⟩ := id C0
  have hg : ∀ w ∈ lw_good, w.before #[Value.ref b] s = true := fun w h => hts w (List.mem_filter.mp h).1
  have hown : s.vm.findClass RL = some m.cls := hown
  obtain ⟨n, n3, T, PK, PT, SX, SY, WH, W1, W2, hT, hXS, hZS, hP1, hP2, hD1, hD2, hap⟩ := hLS
  have q1 := inbN (6 * j + 1) Ln (by omega) (by omega)
  have q2 : (cells + 0) ≤ 600000 ∧ (slots + 0) ≤ 7302250 := ⟨by omega, by omega⟩
  have q3 : 0 ≤ T ∧ T ≤ 900000 := ⟨by omega, by omega⟩
  have q4 : ((cells + 0) + 0) ≤ 600000 ∧ ((slots + 0) + 0) ≤ 7302250 := ⟨by omega, by omega⟩
  have q5 : ((cells + 0) + 0) ≤ cells + 720 := by omega
  have q6 : ((slots + 0) + 0) ≤ slots + 4320 := by omega
  have q7 : 0 ≤ (T + 1) ∧ (T + 1) ≤ ((j + 1 : Nat) : Int) := ⟨by omega, by omega⟩
  refine lv_aload_n hx hb dL_law_1226 rfl (lv_at hl 2 rfl) ?_
  refine lv_aload_n hx hb dL_law_1227 rfl (lv_at hl 3 rfl) ?_
  refine lv_iload_n hx hb dL_law_1228 rfl (lv_at hl 0 rfl) ?_
  refine lv_iconst (v := 1) hx hb dL_law_1229 (by decide) ?_
  refine lv_iadd hx hb dL_law_1230 ?_
  refine lv_topi (fun f1 ef1 => ?_)
  obtain rfl : f1 = nI (6 * j + 1) := ef1.trans (nI_add (6 * j) 1)
  refine va_sld hx hb hX hbl hbA hS q1 dL_law_1231 ?_
  refine cx_borne C0 hA hN hK hST (xs ((nI (6 * j + 1)) : Int32).toNatClampNeg) q2 q3 hZS.svhi hXS hP1 hP2 hD1 hap hS hl (fun r2 W1 H locs hXS hP1 hP2 hD1 hap hS => ?_)
  refine lv_pop hx hb dL_law_1235 rfl ?_
  refine lv_aload_n hx hb dL_law_1236 rfl (lv_at hl 1 rfl) ?_
  refine lv_aload_n hx hb dL_law_1237 rfl (lv_at hl 3 rfl) ?_
  refine lv_iload_n hx hb dL_law_1238 rfl (lv_at hl 0 rfl) ?_
  refine lv_iconst (v := 1) hx hb dL_law_1239 (by decide) ?_
  refine lv_iadd hx hb dL_law_1240 ?_
  refine lv_topi (fun f3 ef3 => ?_)
  obtain rfl : f3 = nI (6 * j + 1) := ef3.trans (nI_add (6 * j) 1)
  refine va_sld hx hb hX hbl hbA hS q1 dL_law_1241 ?_
  refine cz_borne C0 hA hN hK hST (xs ((nI (6 * j + 1)) : Int32).toNatClampNeg) q4 hZS hP2 hP1 hD2 hap.sy hS hl (fun r4 W2 H locs hZS hP2 hP1 hD2 hap hS => ?_)
  have hap := hap.sy
  have hXS := hXS.imp (Q := PS _ _ (T + 1) _ _ _ _ _) (fun x0 x2 x5 x6 x8 x7 x9 x10 K L M h => h)
  refine lv_pop hx hb dL_law_1245 rfl ?_
  refine lv_goto (tgt := 1695) hx hb dL_law_1246 (by decide) ?_
  exact kk H locs _ _ q5 q6 ⟨_, _, (T + 1), _, _, _, _, _, _, _, q7, hXS, hZS, hP1, hP2, hD1, hD2, hap⟩ hS
set_option maxHeartbeats 4000000 in
set_option maxRecDepth 100000 in
theorem law_c25 {p : Program} {l : Launch} {e : Env} {s : State} {m : MethodId} {below : List Frame} {meth : Method} {c : Code} {b Ln : Nat} {xs : Nat → Int32} (C0 : lw_At p s m meth c b Ln xs) {D : va_G} {cy : Nat → ClassId} {A : Nat → Prop} (hA : ∀ q, s.heap.size ≤ q → A q) (hA2 : ∀ q, A q → s.heap.size ≤ q) (hbA : ¬ A b) (hN : NW s) (hK : va_K D vwCl (tysC cy) s) (hST : STAT A s) {xa za : Nat} {j : Nat} {H : Heap} {locs : List Loc} {cells slots : Nat} {ls : Array Slot} (hj : 6 * j + 6 ≤ Ln) (hLn : Ln ≤ 3072) (hc : cells + 720 ≤ 600000) (hs : slots + 4320 ≤ 7302250) (hLS : LSt D cy A xa za j H) (hS : va_S A s.heap H locs) (hl : lv_has ls 4 [(3, .int (nI (6 * j))), (2, .ref za), (1, .ref xa), (0, .ref b)]) (kk : ∀ (H1 : Heap) (locs1 : List Loc) (c1 s1 : Nat), c1 ≤ cells + 720 → s1 ≤ slots + 4320 → LSt D cy A xa za (j + 1) H1 → va_S A s.heap H1 locs1 → W p l e room_1 s m #[Value.ref b] below meth c H1 locs1 c1 s1 (lw_Z below #[Value.ref b] s) (F0 m 1695 ls [])) : W p l e room_1 s m #[Value.ref b] below meth c H locs cells slots (lw_Z below #[Value.ref b] s) (F0 m 1249 ls []) := by
  obtain ⟨hx, hb, hr, hml, hown, hts, hX, hbl, hlocks, hgv⟩ := id C0
  have hg : ∀ w ∈ lw_good, w.before #[Value.ref b] s = true := fun w h => hts w (List.mem_filter.mp h).1
  have hown : s.vm.findClass RL = some m.cls := hown
  obtain ⟨n, n3, T, PK, PT, SX, SY, WH, W1, W2, hT, hXS, hZS, hP1, hP2, hD1, hD2, hap⟩ := hLS
  have q1 := inbN (6 * j + 1) Ln (by omega) (by omega)
  have q2 := inbN (6 * j + 2) Ln (by omega) (by omega)
  have q3 := inbN (6 * j + 3) Ln (by omega) (by omega)
  have q4 : (cells + 0) ≤ 600000 ∧ (slots + 0) ≤ 7302250 := ⟨by omega, by omega⟩
  have q5 : 0 ≤ T ∧ T ≤ 900000 := ⟨by omega, by omega⟩
  have q6 : ((cells + 0) + 0) ≤ 600000 ∧ ((slots + 0) + 0) ≤ 7302250 := ⟨by omega, by omega⟩
  have q7 : ((cells + 0) + 0) ≤ cells + 720 := by omega
  have q8 : ((slots + 0) + 0) ≤ slots + 4320 := by omega
  have q9 : 0 ≤ (T + 1) ∧ (T + 1) ≤ ((j + 1 : Nat) : Int) := ⟨by omega, by omega⟩
  refine lv_aload_n hx hb dL_law_1249 rfl (lv_at hl 2 rfl) ?_
  refine lv_aload_n hx hb dL_law_1250 rfl (lv_at hl 3 rfl) ?_
  refine lv_iload_n hx hb dL_law_1251 rfl (lv_at hl 0 rfl) ?_
  refine lv_iconst (v := 1) hx hb dL_law_1252 (by decide) ?_
  refine lv_iadd hx hb dL_law_1253 ?_
  refine lv_topi (fun f1 ef1 => ?_)
  obtain rfl : f1 = nI (6 * j + 1) := ef1.trans (nI_add (6 * j) 1)
  refine va_sld hx hb hX hbl hbA hS q1 dL_law_1254 ?_
  refine lv_aload_n hx hb dL_law_1255 rfl (lv_at hl 3 rfl) ?_
  refine lv_iload_n hx hb dL_law_1256 rfl (lv_at hl 0 rfl) ?_
  refine lv_iconst (v := 2) hx hb dL_law_1257 (by decide) ?_
  refine lv_iadd hx hb dL_law_1258 ?_
  refine lv_topi (fun f2 ef2 => ?_)
  obtain rfl : f2 = nI (6 * j + 2) := ef2.trans (nI_add (6 * j) 2)
  refine va_sld hx hb hX hbl hbA hS q2 dL_law_1259 ?_
  refine lv_aload_n hx hb dL_law_1260 rfl (lv_at hl 3 rfl) ?_
  refine lv_iload_n hx hb dL_law_1261 rfl (lv_at hl 0 rfl) ?_
  refine lv_iconst (v := 3) hx hb dL_law_1262 (by decide) ?_
  refine lv_iadd hx hb dL_law_1263 ?_
  refine lv_topi (fun f3 ef3 => ?_)
  obtain rfl : f3 = nI (6 * j + 3) := ef3.trans (nI_add (6 * j) 3)
  refine va_sld hx hb hX hbl hbA hS q3 dL_law_1264 ?_
  refine cx_account C0 hA hN hK hST (xs ((nI (6 * j + 1)) : Int32).toNatClampNeg) (xs ((nI (6 * j + 2)) : Int32).toNatClampNeg) (xs ((nI (6 * j + 3)) : Int32).toNatClampNeg) q4 q5 hZS.svhi hXS hP1 hP2 hD1 hap hS hl (fun r4 W1 H locs hXS hP1 hP2 hD1 hap hS => ?_)
  refine lv_pop2_2 hx hb dL_law_1268 rfl ?_
  refine lv_aload_n hx hb dL_law_1269 rfl (lv_at hl 1 rfl) ?_
  refine lv_aload_n hx hb dL_law_1270 rfl (lv_at hl 3 rfl) ?_
  refine lv_iload_n hx hb dL_law_1271 rfl (lv_at hl 0 rfl) ?_
  refine lv_iconst (v := 1) hx hb dL_law_1272 (by decide) ?_
  refine lv_iadd hx hb dL_law_1273 ?_
  refine lv_topi (fun f5 ef5 => ?_)
  obtain rfl : f5 = nI (6 * j + 1) := ef5.trans (nI_add (6 * j) 1)
  refine va_sld hx hb hX hbl hbA hS q1 dL_law_1274 ?_
  refine lv_aload_n hx hb dL_law_1275 rfl (lv_at hl 3 rfl) ?_
  refine lv_iload_n hx hb dL_law_1276 rfl (lv_at hl 0 rfl) ?_
  refine lv_iconst (v := 2) hx hb dL_law_1277 (by decide) ?_
  refine lv_iadd hx hb dL_law_1278 ?_
  refine lv_topi (fun f6 ef6 => ?_)
  obtain rfl : f6 = nI (6 * j + 2) := ef6.trans (nI_add (6 * j) 2)
  refine va_sld hx hb hX hbl hbA hS q2 dL_law_1279 ?_
  refine lv_aload_n hx hb dL_law_1280 rfl (lv_at hl 3 rfl) ?_
  refine lv_iload_n hx hb dL_law_1281 rfl (lv_at hl 0 rfl) ?_
  refine lv_iconst (v := 3) hx hb dL_law_1282 (by decide) ?_
  refine lv_iadd hx hb dL_law_1283 ?_
  refine lv_topi (fun f7 ef7 => ?_)
  obtain rfl : f7 = nI (6 * j + 3) := ef7.trans (nI_add (6 * j) 3)
  refine va_sld hx hb hX hbl hbA hS q3 dL_law_1284 ?_
  refine cz_account C0 hA hN hK hST (xs ((nI (6 * j + 1)) : Int32).toNatClampNeg) (xs ((nI (6 * j + 2)) : Int32).toNatClampNeg) (xs ((nI (6 * j + 3)) : Int32).toNatClampNeg) q6 hZS hP2 hP1 hD2 hap.sy hS hl (fun r8 W2 H locs hZS hP2 hP1 hD2 hap hS => ?_)
  have hap := hap.sy
  have hXS := hXS.imp (Q := PS _ _ (T + 1) _ _ _ _ _) (fun x0 x2 x5 x6 x8 x7 x9 x10 K L M h => h)
  refine lv_pop2_2 hx hb dL_law_1288 rfl ?_
  refine lv_goto (tgt := 1695) hx hb dL_law_1289 (by decide) ?_
  exact kk H locs _ _ q7 q8 ⟨_, _, (T + 1), _, _, _, _, _, _, _, q9, hXS, hZS, hP1, hP2, hD1, hD2, hap⟩ hS
set_option maxHeartbeats 4000000 in
set_option maxRecDepth 100000 in
theorem law_c26 {p : Program} {l : Launch} {e : Env} {s : State} {m : MethodId} {below : List Frame} {meth : Method} {c : Code} {b Ln : Nat} {xs : Nat → Int32} (C0 : lw_At p s m meth c b Ln xs) {D : va_G} {cy : Nat → ClassId} {A : Nat → Prop} (hA : ∀ q, s.heap.size ≤ q → A q) (hA2 : ∀ q, A q → s.heap.size ≤ q) (hbA : ¬ A b) (hN : NW s) (hK : va_K D vwCl (tysC cy) s) (hST : STAT A s) {xa za : Nat} {j : Nat} {H : Heap} {locs : List Loc} {cells slots : Nat} {ls : Array Slot} (hj : 6 * j + 6 ≤ Ln) (hLn : Ln ≤ 3072) (hc : cells + 720 ≤ 600000) (hs : slots + 4320 ≤ 7302250) (hLS : LSt D cy A xa za j H) (hS : va_S A s.heap H locs) (hl : lv_has ls 4 [(3, .int (nI (6 * j))), (2, .ref za), (1, .ref xa), (0, .ref b)]) (kk : ∀ (H1 : Heap) (locs1 : List Loc) (c1 s1 : Nat), c1 ≤ cells + 720 → s1 ≤ slots + 4320 → LSt D cy A xa za (j + 1) H1 → va_S A s.heap H1 locs1 → W p l e room_1 s m #[Value.ref b] below meth c H1 locs1 c1 s1 (lw_Z below #[Value.ref b] s) (F0 m 1695 ls [])) : W p l e room_1 s m #[Value.ref b] below meth c H locs cells slots (lw_Z below #[Value.ref b] s) (F0 m 1292 ls []) := by
  obtain ⟨hx, hb, hr, hml, hown, hts, hX, hbl, hlocks, hgv⟩ := id C0
  have hg : ∀ w ∈ lw_good, w.before #[Value.ref b] s = true := fun w h => hts w (List.mem_filter.mp h).1
  have hown : s.vm.findClass RL = some m.cls := hown
  obtain ⟨n, n3, T, PK, PT, SX, SY, WH, W1, W2, hT, hXS, hZS, hP1, hP2, hD1, hD2, hap⟩ := hLS
  have q1 := inbN (6 * j + 1) Ln (by omega) (by omega)
  have q2 := inbN (6 * j + 2) Ln (by omega) (by omega)
  have q3 := inbN (6 * j + 3) Ln (by omega) (by omega)
  have q4 : (cells + 0) ≤ 600000 ∧ (slots + 0) ≤ 7302250 := ⟨by omega, by omega⟩
  have q5 : 0 ≤ T ∧ T ≤ 900000 := ⟨by omega, by omega⟩
  have q6 : ((cells + 0) + 0) ≤ 600000 ∧ ((slots + 0) + 0) ≤ 7302250 := ⟨by omega, by omega⟩
  have q7 : ((cells + 0) + 0) ≤ cells + 720 := by omega
  have q8 : ((slots + 0) + 0) ≤ slots + 4320 := by omega
  have q9 : 0 ≤ (T + 1) ∧ (T + 1) ≤ ((j + 1 : Nat) : Int) := ⟨by omega, by omega⟩
  refine lv_aload_n hx hb dL_law_1292 rfl (lv_at hl 2 rfl) ?_
  refine lv_aload_n hx hb dL_law_1293 rfl (lv_at hl 3 rfl) ?_
  refine lv_iload_n hx hb dL_law_1294 rfl (lv_at hl 0 rfl) ?_
  refine lv_iconst (v := 1) hx hb dL_law_1295 (by decide) ?_
  refine lv_iadd hx hb dL_law_1296 ?_
  refine lv_topi (fun f1 ef1 => ?_)
  obtain rfl : f1 = nI (6 * j + 1) := ef1.trans (nI_add (6 * j) 1)
  refine va_sld hx hb hX hbl hbA hS q1 dL_law_1297 ?_
  refine lv_aload_n hx hb dL_law_1298 rfl (lv_at hl 3 rfl) ?_
  refine lv_iload_n hx hb dL_law_1299 rfl (lv_at hl 0 rfl) ?_
  refine lv_iconst (v := 2) hx hb dL_law_1300 (by decide) ?_
  refine lv_iadd hx hb dL_law_1301 ?_
  refine lv_topi (fun f2 ef2 => ?_)
  obtain rfl : f2 = nI (6 * j + 2) := ef2.trans (nI_add (6 * j) 2)
  refine va_sld hx hb hX hbl hbA hS q2 dL_law_1302 ?_
  refine lv_aload_n hx hb dL_law_1303 rfl (lv_at hl 3 rfl) ?_
  refine lv_iload_n hx hb dL_law_1304 rfl (lv_at hl 0 rfl) ?_
  refine lv_iconst (v := 3) hx hb dL_law_1305 (by decide) ?_
  refine lv_iadd hx hb dL_law_1306 ?_
  refine lv_topi (fun f3 ef3 => ?_)
  obtain rfl : f3 = nI (6 * j + 3) := ef3.trans (nI_add (6 * j) 3)
  refine va_sld hx hb hX hbl hbA hS q3 dL_law_1307 ?_
  refine cx_tenure C0 hA hN hK hST (xs ((nI (6 * j + 1)) : Int32).toNatClampNeg) (xs ((nI (6 * j + 2)) : Int32).toNatClampNeg) (xs ((nI (6 * j + 3)) : Int32).toNatClampNeg) q4 q5 hZS.svhi hXS hP1 hP2 hD1 hap hS hl (fun r4 W1 H locs _hr hXS hP1 hP2 hD1 hap hS => ?_)
  refine lv_pop hx hb dL_law_1311 rfl ?_
  refine lv_aload_n hx hb dL_law_1312 rfl (lv_at hl 1 rfl) ?_
  refine lv_aload_n hx hb dL_law_1313 rfl (lv_at hl 3 rfl) ?_
  refine lv_iload_n hx hb dL_law_1314 rfl (lv_at hl 0 rfl) ?_
  refine lv_iconst (v := 1) hx hb dL_law_1315 (by decide) ?_
  refine lv_iadd hx hb dL_law_1316 ?_
  refine lv_topi (fun f5 ef5 => ?_)
  obtain rfl : f5 = nI (6 * j + 1) := ef5.trans (nI_add (6 * j) 1)
  refine va_sld hx hb hX hbl hbA hS q1 dL_law_1317 ?_
  refine lv_aload_n hx hb dL_law_1318 rfl (lv_at hl 3 rfl) ?_
  refine lv_iload_n hx hb dL_law_1319 rfl (lv_at hl 0 rfl) ?_
  refine lv_iconst (v := 2) hx hb dL_law_1320 (by decide) ?_
  refine lv_iadd hx hb dL_law_1321 ?_
  refine lv_topi (fun f6 ef6 => ?_)
  obtain rfl : f6 = nI (6 * j + 2) := ef6.trans (nI_add (6 * j) 2)
  refine va_sld hx hb hX hbl hbA hS q2 dL_law_1322 ?_
  refine lv_aload_n hx hb dL_law_1323 rfl (lv_at hl 3 rfl) ?_
  refine lv_iload_n hx hb dL_law_1324 rfl (lv_at hl 0 rfl) ?_
  refine lv_iconst (v := 3) hx hb dL_law_1325 (by decide) ?_
  refine lv_iadd hx hb dL_law_1326 ?_
  refine lv_topi (fun f7 ef7 => ?_)
  obtain rfl : f7 = nI (6 * j + 3) := ef7.trans (nI_add (6 * j) 3)
  refine va_sld hx hb hX hbl hbA hS q3 dL_law_1327 ?_
  refine cz_tenure C0 hA hN hK hST (xs ((nI (6 * j + 1)) : Int32).toNatClampNeg) (xs ((nI (6 * j + 2)) : Int32).toNatClampNeg) (xs ((nI (6 * j + 3)) : Int32).toNatClampNeg) q6 hZS hP2 hP1 hD2 hap.sy hS hl (fun r8 W2 H locs _hr hZS hP2 hP1 hD2 hap hS => ?_)
  have hap := hap.sy
  have hXS := hXS.imp (Q := PS _ _ (T + 1) _ _ _ _ _) (fun x0 x2 x5 x6 x8 x7 x9 x10 K L M h => h)
  refine lv_pop hx hb dL_law_1331 rfl ?_
  refine lv_goto (tgt := 1695) hx hb dL_law_1332 (by decide) ?_
  exact kk H locs _ _ q7 q8 ⟨_, _, (T + 1), _, _, _, _, _, _, _, q9, hXS, hZS, hP1, hP2, hD1, hD2, hap⟩ hS
set_option maxHeartbeats 4000000 in
set_option maxRecDepth 100000 in
theorem law_c27 {p : Program} {l : Launch} {e : Env} {s : State} {m : MethodId} {below : List Frame} {meth : Method} {c : Code} {b Ln : Nat} {xs : Nat → Int32} (C0 : lw_At p s m meth c b Ln xs) {D : va_G} {cy : Nat → ClassId} {A : Nat → Prop} (hA : ∀ q, s.heap.size ≤ q → A q) (hA2 : ∀ q, A q → s.heap.size ≤ q) (hbA : ¬ A b) (hN : NW s) (hK : va_K D vwCl (tysC cy) s) (hST : STAT A s) {xa za : Nat} {j : Nat} {H : Heap} {locs : List Loc} {cells slots : Nat} {ls : Array Slot} (hj : 6 * j + 6 ≤ Ln) (hLn : Ln ≤ 3072) (hc : cells + 720 ≤ 600000) (hs : slots + 4320 ≤ 7302250) (hLS : LSt D cy A xa za j H) (hS : va_S A s.heap H locs) (hl : lv_has ls 4 [(3, .int (nI (6 * j))), (2, .ref za), (1, .ref xa), (0, .ref b)]) (kk : ∀ (H1 : Heap) (locs1 : List Loc) (c1 s1 : Nat), c1 ≤ cells + 720 → s1 ≤ slots + 4320 → LSt D cy A xa za (j + 1) H1 → va_S A s.heap H1 locs1 → W p l e room_1 s m #[Value.ref b] below meth c H1 locs1 c1 s1 (lw_Z below #[Value.ref b] s) (F0 m 1695 ls [])) : W p l e room_1 s m #[Value.ref b] below meth c H locs cells slots (lw_Z below #[Value.ref b] s) (F0 m 1335 ls []) := by
  obtain ⟨hx, hb, hr, hml, hown, hts, hX, hbl, hlocks, hgv⟩ := id C0
  have hg : ∀ w ∈ lw_good, w.before #[Value.ref b] s = true := fun w h => hts w (List.mem_filter.mp h).1
  have hown : s.vm.findClass RL = some m.cls := hown
  obtain ⟨n, n3, T, PK, PT, SX, SY, WH, W1, W2, hT, hXS, hZS, hP1, hP2, hD1, hD2, hap⟩ := hLS
  have q1 := inbN (6 * j + 1) Ln (by omega) (by omega)
  have q2 := inbN (6 * j + 2) Ln (by omega) (by omega)
  have q3 := inbN (6 * j + 3) Ln (by omega) (by omega)
  have q4 : (cells + 0) ≤ 600000 ∧ (slots + 0) ≤ 7302250 := ⟨by omega, by omega⟩
  have q5 : 0 ≤ T ∧ T ≤ 900000 := ⟨by omega, by omega⟩
  have q6 : ((cells + 0) + 0) ≤ 600000 ∧ ((slots + 0) + 0) ≤ 7302250 := ⟨by omega, by omega⟩
  have q7 : ((cells + 0) + 0) ≤ cells + 720 := by omega
  have q8 : ((slots + 0) + 0) ≤ slots + 4320 := by omega
  have q9 : 0 ≤ (T + 1) ∧ (T + 1) ≤ ((j + 1 : Nat) : Int) := ⟨by omega, by omega⟩
  refine lv_aload_n hx hb dL_law_1335 rfl (lv_at hl 2 rfl) ?_
  refine lv_aload_n hx hb dL_law_1336 rfl (lv_at hl 3 rfl) ?_
  refine lv_iload_n hx hb dL_law_1337 rfl (lv_at hl 0 rfl) ?_
  refine lv_iconst (v := 1) hx hb dL_law_1338 (by decide) ?_
  refine lv_iadd hx hb dL_law_1339 ?_
  refine lv_topi (fun f1 ef1 => ?_)
  obtain rfl : f1 = nI (6 * j + 1) := ef1.trans (nI_add (6 * j) 1)
  refine va_sld hx hb hX hbl hbA hS q1 dL_law_1340 ?_
  refine lv_aload_n hx hb dL_law_1341 rfl (lv_at hl 3 rfl) ?_
  refine lv_iload_n hx hb dL_law_1342 rfl (lv_at hl 0 rfl) ?_
  refine lv_iconst (v := 2) hx hb dL_law_1343 (by decide) ?_
  refine lv_iadd hx hb dL_law_1344 ?_
  refine lv_topi (fun f2 ef2 => ?_)
  obtain rfl : f2 = nI (6 * j + 2) := ef2.trans (nI_add (6 * j) 2)
  refine va_sld hx hb hX hbl hbA hS q2 dL_law_1345 ?_
  refine lv_aload_n hx hb dL_law_1346 rfl (lv_at hl 3 rfl) ?_
  refine lv_iload_n hx hb dL_law_1347 rfl (lv_at hl 0 rfl) ?_
  refine lv_iconst (v := 3) hx hb dL_law_1348 (by decide) ?_
  refine lv_iadd hx hb dL_law_1349 ?_
  refine lv_topi (fun f3 ef3 => ?_)
  obtain rfl : f3 = nI (6 * j + 3) := ef3.trans (nI_add (6 * j) 3)
  refine va_sld hx hb hX hbl hbA hS q3 dL_law_1350 ?_
  refine cx_who C0 hA hN hK hST (xs ((nI (6 * j + 1)) : Int32).toNatClampNeg) (xs ((nI (6 * j + 2)) : Int32).toNatClampNeg) (xs ((nI (6 * j + 3)) : Int32).toNatClampNeg) q4 q5 hZS.svhi hXS hP1 hP2 hD1 hap hS hl (fun r4 W1 H locs hXS hP1 hP2 hD1 hap hS => ?_)
  refine lv_pop hx hb dL_law_1354 rfl ?_
  refine lv_aload_n hx hb dL_law_1355 rfl (lv_at hl 1 rfl) ?_
  refine lv_aload_n hx hb dL_law_1356 rfl (lv_at hl 3 rfl) ?_
  refine lv_iload_n hx hb dL_law_1357 rfl (lv_at hl 0 rfl) ?_
  refine lv_iconst (v := 1) hx hb dL_law_1358 (by decide) ?_
  refine lv_iadd hx hb dL_law_1359 ?_
  refine lv_topi (fun f5 ef5 => ?_)
  obtain rfl : f5 = nI (6 * j + 1) := ef5.trans (nI_add (6 * j) 1)
  refine va_sld hx hb hX hbl hbA hS q1 dL_law_1360 ?_
  refine lv_aload_n hx hb dL_law_1361 rfl (lv_at hl 3 rfl) ?_
  refine lv_iload_n hx hb dL_law_1362 rfl (lv_at hl 0 rfl) ?_
  refine lv_iconst (v := 2) hx hb dL_law_1363 (by decide) ?_
  refine lv_iadd hx hb dL_law_1364 ?_
  refine lv_topi (fun f6 ef6 => ?_)
  obtain rfl : f6 = nI (6 * j + 2) := ef6.trans (nI_add (6 * j) 2)
  refine va_sld hx hb hX hbl hbA hS q2 dL_law_1365 ?_
  refine lv_aload_n hx hb dL_law_1366 rfl (lv_at hl 3 rfl) ?_
  refine lv_iload_n hx hb dL_law_1367 rfl (lv_at hl 0 rfl) ?_
  refine lv_iconst (v := 3) hx hb dL_law_1368 (by decide) ?_
  refine lv_iadd hx hb dL_law_1369 ?_
  refine lv_topi (fun f7 ef7 => ?_)
  obtain rfl : f7 = nI (6 * j + 3) := ef7.trans (nI_add (6 * j) 3)
  refine va_sld hx hb hX hbl hbA hS q3 dL_law_1370 ?_
  refine cz_who C0 hA hN hK hST (xs ((nI (6 * j + 1)) : Int32).toNatClampNeg) (xs ((nI (6 * j + 2)) : Int32).toNatClampNeg) (xs ((nI (6 * j + 3)) : Int32).toNatClampNeg) q6 hZS hP2 hP1 hD2 hap.sy hS hl (fun r8 W2 H locs hZS hP2 hP1 hD2 hap hS => ?_)
  have hap := hap.sy
  have hXS := hXS.imp (Q := PS _ _ (T + 1) _ _ _ _ _) (fun x0 x2 x5 x6 x8 x7 x9 x10 K L M h => h)
  refine lv_pop hx hb dL_law_1374 rfl ?_
  refine lv_goto (tgt := 1695) hx hb dL_law_1375 (by decide) ?_
  exact kk H locs _ _ q7 q8 ⟨_, _, (T + 1), _, _, _, _, _, _, _, q9, hXS, hZS, hP1, hP2, hD1, hD2, hap⟩ hS
set_option maxHeartbeats 4000000 in
set_option maxRecDepth 100000 in
theorem law_c28 {p : Program} {l : Launch} {e : Env} {s : State} {m : MethodId} {below : List Frame} {meth : Method} {c : Code} {b Ln : Nat} {xs : Nat → Int32} (C0 : lw_At p s m meth c b Ln xs) {D : va_G} {cy : Nat → ClassId} {A : Nat → Prop} (hA : ∀ q, s.heap.size ≤ q → A q) (hA2 : ∀ q, A q → s.heap.size ≤ q) (hbA : ¬ A b) (hN : NW s) (hK : va_K D vwCl (tysC cy) s) (hST : STAT A s) {xa za : Nat} {j : Nat} {H : Heap} {locs : List Loc} {cells slots : Nat} {ls : Array Slot} (hj : 6 * j + 6 ≤ Ln) (hLn : Ln ≤ 3072) (hc : cells + 720 ≤ 600000) (hs : slots + 4320 ≤ 7302250) (hLS : LSt D cy A xa za j H) (hS : va_S A s.heap H locs) (hl : lv_has ls 4 [(3, .int (nI (6 * j))), (2, .ref za), (1, .ref xa), (0, .ref b)]) (kk : ∀ (H1 : Heap) (locs1 : List Loc) (c1 s1 : Nat), c1 ≤ cells + 720 → s1 ≤ slots + 4320 → LSt D cy A xa za (j + 1) H1 → va_S A s.heap H1 locs1 → W p l e room_1 s m #[Value.ref b] below meth c H1 locs1 c1 s1 (lw_Z below #[Value.ref b] s) (F0 m 1695 ls [])) : W p l e room_1 s m #[Value.ref b] below meth c H locs cells slots (lw_Z below #[Value.ref b] s) (F0 m 1378 ls []) := by
  obtain ⟨hx, hb, hr, hml, hown, hts, hX, hbl, hlocks, hgv⟩ := id C0
  have hg : ∀ w ∈ lw_good, w.before #[Value.ref b] s = true := fun w h => hts w (List.mem_filter.mp h).1
  have hown : s.vm.findClass RL = some m.cls := hown
  obtain ⟨n, n3, T, PK, PT, SX, SY, WH, W1, W2, hT, hXS, hZS, hP1, hP2, hD1, hD2, hap⟩ := hLS
  have q1 := inbN (6 * j + 1) Ln (by omega) (by omega)
  have q2 := inbN (6 * j + 2) Ln (by omega) (by omega)
  have q3 := inbN (6 * j + 3) Ln (by omega) (by omega)
  have q4 : (cells + 0) ≤ 600000 ∧ (slots + 0) ≤ 7302250 := ⟨by omega, by omega⟩
  have q5 : 0 ≤ T ∧ T ≤ 900000 := ⟨by omega, by omega⟩
  have q6 : ((cells + 0) + 0) ≤ 600000 ∧ ((slots + 0) + 0) ≤ 7302250 := ⟨by omega, by omega⟩
  have q7 : ((cells + 0) + 0) ≤ cells + 720 := by omega
  have q8 : ((slots + 0) + 0) ≤ slots + 4320 := by omega
  have q9 : 0 ≤ (T + 1) ∧ (T + 1) ≤ ((j + 1 : Nat) : Int) := ⟨by omega, by omega⟩
  refine lv_aload_n hx hb dL_law_1378 rfl (lv_at hl 2 rfl) ?_
  refine lv_aload_n hx hb dL_law_1379 rfl (lv_at hl 3 rfl) ?_
  refine lv_iload_n hx hb dL_law_1380 rfl (lv_at hl 0 rfl) ?_
  refine lv_iconst (v := 1) hx hb dL_law_1381 (by decide) ?_
  refine lv_iadd hx hb dL_law_1382 ?_
  refine lv_topi (fun f1 ef1 => ?_)
  obtain rfl : f1 = nI (6 * j + 1) := ef1.trans (nI_add (6 * j) 1)
  refine va_sld hx hb hX hbl hbA hS q1 dL_law_1383 ?_
  refine lv_aload_n hx hb dL_law_1384 rfl (lv_at hl 3 rfl) ?_
  refine lv_iload_n hx hb dL_law_1385 rfl (lv_at hl 0 rfl) ?_
  refine lv_iconst (v := 2) hx hb dL_law_1386 (by decide) ?_
  refine lv_iadd hx hb dL_law_1387 ?_
  refine lv_topi (fun f2 ef2 => ?_)
  obtain rfl : f2 = nI (6 * j + 2) := ef2.trans (nI_add (6 * j) 2)
  refine va_sld hx hb hX hbl hbA hS q2 dL_law_1388 ?_
  refine lv_aload_n hx hb dL_law_1389 rfl (lv_at hl 3 rfl) ?_
  refine lv_iload_n hx hb dL_law_1390 rfl (lv_at hl 0 rfl) ?_
  refine lv_iconst (v := 3) hx hb dL_law_1391 (by decide) ?_
  refine lv_iadd hx hb dL_law_1392 ?_
  refine lv_topi (fun f3 ef3 => ?_)
  obtain rfl : f3 = nI (6 * j + 3) := ef3.trans (nI_add (6 * j) 3)
  refine va_sld hx hb hX hbl hbA hS q3 dL_law_1393 ?_
  refine cx_stretch C0 hA hN hK hST (xs ((nI (6 * j + 1)) : Int32).toNatClampNeg) (xs ((nI (6 * j + 2)) : Int32).toNatClampNeg) (xs ((nI (6 * j + 3)) : Int32).toNatClampNeg) q4 q5 hZS.svhi hXS hP1 hP2 hD1 hap hS hl (fun r4 W1 H locs hXS hP1 hP2 hD1 hap hS => ?_)
  refine lv_pop2_2 hx hb dL_law_1397 rfl ?_
  refine lv_aload_n hx hb dL_law_1398 rfl (lv_at hl 1 rfl) ?_
  refine lv_aload_n hx hb dL_law_1399 rfl (lv_at hl 3 rfl) ?_
  refine lv_iload_n hx hb dL_law_1400 rfl (lv_at hl 0 rfl) ?_
  refine lv_iconst (v := 1) hx hb dL_law_1401 (by decide) ?_
  refine lv_iadd hx hb dL_law_1402 ?_
  refine lv_topi (fun f5 ef5 => ?_)
  obtain rfl : f5 = nI (6 * j + 1) := ef5.trans (nI_add (6 * j) 1)
  refine va_sld hx hb hX hbl hbA hS q1 dL_law_1403 ?_
  refine lv_aload_n hx hb dL_law_1404 rfl (lv_at hl 3 rfl) ?_
  refine lv_iload_n hx hb dL_law_1405 rfl (lv_at hl 0 rfl) ?_
  refine lv_iconst (v := 2) hx hb dL_law_1406 (by decide) ?_
  refine lv_iadd hx hb dL_law_1407 ?_
  refine lv_topi (fun f6 ef6 => ?_)
  obtain rfl : f6 = nI (6 * j + 2) := ef6.trans (nI_add (6 * j) 2)
  refine va_sld hx hb hX hbl hbA hS q2 dL_law_1408 ?_
  refine lv_aload_n hx hb dL_law_1409 rfl (lv_at hl 3 rfl) ?_
  refine lv_iload_n hx hb dL_law_1410 rfl (lv_at hl 0 rfl) ?_
  refine lv_iconst (v := 3) hx hb dL_law_1411 (by decide) ?_
  refine lv_iadd hx hb dL_law_1412 ?_
  refine lv_topi (fun f7 ef7 => ?_)
  obtain rfl : f7 = nI (6 * j + 3) := ef7.trans (nI_add (6 * j) 3)
  refine va_sld hx hb hX hbl hbA hS q3 dL_law_1413 ?_
  refine cz_stretch C0 hA hN hK hST (xs ((nI (6 * j + 1)) : Int32).toNatClampNeg) (xs ((nI (6 * j + 2)) : Int32).toNatClampNeg) (xs ((nI (6 * j + 3)) : Int32).toNatClampNeg) q6 hZS hP2 hP1 hD2 hap.sy hS hl (fun r8 W2 H locs hZS hP2 hP1 hD2 hap hS => ?_)
  have hap := hap.sy
  have hXS := hXS.imp (Q := PS _ _ (T + 1) _ _ _ _ _) (fun x0 x2 x5 x6 x8 x7 x9 x10 K L M h => h)
  refine lv_pop2_2 hx hb dL_law_1417 rfl ?_
  refine lv_goto (tgt := 1695) hx hb dL_law_1418 (by decide) ?_
  exact kk H locs _ _ q7 q8 ⟨_, _, (T + 1), _, _, _, _, _, _, _, q9, hXS, hZS, hP1, hP2, hD1, hD2, hap⟩ hS
set_option maxHeartbeats 4000000 in
set_option maxRecDepth 100000 in
theorem law_c29 {p : Program} {l : Launch} {e : Env} {s : State} {m : MethodId} {below : List Frame} {meth : Method} {c : Code} {b Ln : Nat} {xs : Nat → Int32} (C0 : lw_At p s m meth c b Ln xs) {D : va_G} {cy : Nat → ClassId} {A : Nat → Prop} (hA : ∀ q, s.heap.size ≤ q → A q) (hA2 : ∀ q, A q → s.heap.size ≤ q) (hbA : ¬ A b) (hN : NW s) (hK : va_K D vwCl (tysC cy) s) (hST : STAT A s) {xa za : Nat} {j : Nat} {H : Heap} {locs : List Loc} {cells slots : Nat} {ls : Array Slot} (hj : 6 * j + 6 ≤ Ln) (hLn : Ln ≤ 3072) (hc : cells + 720 ≤ 600000) (hs : slots + 4320 ≤ 7302250) (hLS : LSt D cy A xa za j H) (hS : va_S A s.heap H locs) (hl : lv_has ls 4 [(3, .int (nI (6 * j))), (2, .ref za), (1, .ref xa), (0, .ref b)]) (kk : ∀ (H1 : Heap) (locs1 : List Loc) (c1 s1 : Nat), c1 ≤ cells + 720 → s1 ≤ slots + 4320 → LSt D cy A xa za (j + 1) H1 → va_S A s.heap H1 locs1 → W p l e room_1 s m #[Value.ref b] below meth c H1 locs1 c1 s1 (lw_Z below #[Value.ref b] s) (F0 m 1695 ls [])) : W p l e room_1 s m #[Value.ref b] below meth c H locs cells slots (lw_Z below #[Value.ref b] s) (F0 m 1421 ls []) := by
  obtain ⟨hx, hb, hr, hml, hown, hts, hX, hbl, hlocks, hgv⟩ := id C0
  have hg : ∀ w ∈ lw_good, w.before #[Value.ref b] s = true := fun w h => hts w (List.mem_filter.mp h).1
  have hown : s.vm.findClass RL = some m.cls := hown
  obtain ⟨n, n3, T, PK, PT, SX, SY, WH, W1, W2, hT, hXS, hZS, hP1, hP2, hD1, hD2, hap⟩ := hLS
  have q1 := inbN (6 * j + 1) Ln (by omega) (by omega)
  have q2 := inbN (6 * j + 2) Ln (by omega) (by omega)
  have q3 := inbN (6 * j + 3) Ln (by omega) (by omega)
  have q4 : (cells + 0) ≤ 600000 ∧ (slots + 0) ≤ 7302250 := ⟨by omega, by omega⟩
  have q5 : 0 ≤ T ∧ T ≤ 900000 := ⟨by omega, by omega⟩
  have q6 : ((cells + 0) + 0) ≤ 600000 ∧ ((slots + 0) + 0) ≤ 7302250 := ⟨by omega, by omega⟩
  have q7 : ((cells + 0) + 0) ≤ cells + 720 := by omega
  have q8 : ((slots + 0) + 0) ≤ slots + 4320 := by omega
  have q9 : 0 ≤ (T + 1) ∧ (T + 1) ≤ ((j + 1 : Nat) : Int) := ⟨by omega, by omega⟩
  refine lv_aload_n hx hb dL_law_1421 rfl (lv_at hl 2 rfl) ?_
  refine lv_aload_n hx hb dL_law_1422 rfl (lv_at hl 3 rfl) ?_
  refine lv_iload_n hx hb dL_law_1423 rfl (lv_at hl 0 rfl) ?_
  refine lv_iconst (v := 1) hx hb dL_law_1424 (by decide) ?_
  refine lv_iadd hx hb dL_law_1425 ?_
  refine lv_topi (fun f1 ef1 => ?_)
  obtain rfl : f1 = nI (6 * j + 1) := ef1.trans (nI_add (6 * j) 1)
  refine va_sld hx hb hX hbl hbA hS q1 dL_law_1426 ?_
  refine lv_aload_n hx hb dL_law_1427 rfl (lv_at hl 3 rfl) ?_
  refine lv_iload_n hx hb dL_law_1428 rfl (lv_at hl 0 rfl) ?_
  refine lv_iconst (v := 2) hx hb dL_law_1429 (by decide) ?_
  refine lv_iadd hx hb dL_law_1430 ?_
  refine lv_topi (fun f2 ef2 => ?_)
  obtain rfl : f2 = nI (6 * j + 2) := ef2.trans (nI_add (6 * j) 2)
  refine va_sld hx hb hX hbl hbA hS q2 dL_law_1431 ?_
  refine lv_aload_n hx hb dL_law_1432 rfl (lv_at hl 3 rfl) ?_
  refine lv_iload_n hx hb dL_law_1433 rfl (lv_at hl 0 rfl) ?_
  refine lv_iconst (v := 3) hx hb dL_law_1434 (by decide) ?_
  refine lv_iadd hx hb dL_law_1435 ?_
  refine lv_topi (fun f3 ef3 => ?_)
  obtain rfl : f3 = nI (6 * j + 3) := ef3.trans (nI_add (6 * j) 3)
  refine va_sld hx hb hX hbl hbA hS q3 dL_law_1436 ?_
  refine cx_due C0 hA hN hK hST (xs ((nI (6 * j + 1)) : Int32).toNatClampNeg) (xs ((nI (6 * j + 2)) : Int32).toNatClampNeg) (xs ((nI (6 * j + 3)) : Int32).toNatClampNeg) q4 q5 hZS.svhi hXS hP1 hP2 hD1 hap hS hl (fun r4 W1 H locs hXS hP1 hP2 hD1 hap hS => ?_)
  refine lv_pop2_2 hx hb dL_law_1440 rfl ?_
  refine lv_aload_n hx hb dL_law_1441 rfl (lv_at hl 1 rfl) ?_
  refine lv_aload_n hx hb dL_law_1442 rfl (lv_at hl 3 rfl) ?_
  refine lv_iload_n hx hb dL_law_1443 rfl (lv_at hl 0 rfl) ?_
  refine lv_iconst (v := 1) hx hb dL_law_1444 (by decide) ?_
  refine lv_iadd hx hb dL_law_1445 ?_
  refine lv_topi (fun f5 ef5 => ?_)
  obtain rfl : f5 = nI (6 * j + 1) := ef5.trans (nI_add (6 * j) 1)
  refine va_sld hx hb hX hbl hbA hS q1 dL_law_1446 ?_
  refine lv_aload_n hx hb dL_law_1447 rfl (lv_at hl 3 rfl) ?_
  refine lv_iload_n hx hb dL_law_1448 rfl (lv_at hl 0 rfl) ?_
  refine lv_iconst (v := 2) hx hb dL_law_1449 (by decide) ?_
  refine lv_iadd hx hb dL_law_1450 ?_
  refine lv_topi (fun f6 ef6 => ?_)
  obtain rfl : f6 = nI (6 * j + 2) := ef6.trans (nI_add (6 * j) 2)
  refine va_sld hx hb hX hbl hbA hS q2 dL_law_1451 ?_
  refine lv_aload_n hx hb dL_law_1452 rfl (lv_at hl 3 rfl) ?_
  refine lv_iload_n hx hb dL_law_1453 rfl (lv_at hl 0 rfl) ?_
  refine lv_iconst (v := 3) hx hb dL_law_1454 (by decide) ?_
  refine lv_iadd hx hb dL_law_1455 ?_
  refine lv_topi (fun f7 ef7 => ?_)
  obtain rfl : f7 = nI (6 * j + 3) := ef7.trans (nI_add (6 * j) 3)
  refine va_sld hx hb hX hbl hbA hS q3 dL_law_1456 ?_
  refine cz_due C0 hA hN hK hST (xs ((nI (6 * j + 1)) : Int32).toNatClampNeg) (xs ((nI (6 * j + 2)) : Int32).toNatClampNeg) (xs ((nI (6 * j + 3)) : Int32).toNatClampNeg) q6 hZS hP2 hP1 hD2 hap.sy hS hl (fun r8 W2 H locs hZS hP2 hP1 hD2 hap hS => ?_)
  have hap := hap.sy
  have hXS := hXS.imp (Q := PS _ _ (T + 1) _ _ _ _ _) (fun x0 x2 x5 x6 x8 x7 x9 x10 K L M h => h)
  refine lv_pop2_2 hx hb dL_law_1460 rfl ?_
  refine lv_goto (tgt := 1695) hx hb dL_law_1461 (by decide) ?_
  exact kk H locs _ _ q7 q8 ⟨_, _, (T + 1), _, _, _, _, _, _, _, q9, hXS, hZS, hP1, hP2, hD1, hD2, hap⟩ hS
set_option maxHeartbeats 4000000 in
set_option maxRecDepth 100000 in
theorem law_c30 {p : Program} {l : Launch} {e : Env} {s : State} {m : MethodId} {below : List Frame} {meth : Method} {c : Code} {b Ln : Nat} {xs : Nat → Int32} (C0 : lw_At p s m meth c b Ln xs) {D : va_G} {cy : Nat → ClassId} {A : Nat → Prop} (hA : ∀ q, s.heap.size ≤ q → A q) (hA2 : ∀ q, A q → s.heap.size ≤ q) (hbA : ¬ A b) (hN : NW s) (hK : va_K D vwCl (tysC cy) s) (hST : STAT A s) {xa za : Nat} {j : Nat} {H : Heap} {locs : List Loc} {cells slots : Nat} {ls : Array Slot} (hj : 6 * j + 6 ≤ Ln) (hLn : Ln ≤ 3072) (hc : cells + 720 ≤ 600000) (hs : slots + 4320 ≤ 7302250) (hLS : LSt D cy A xa za j H) (hS : va_S A s.heap H locs) (hl : lv_has ls 4 [(3, .int (nI (6 * j))), (2, .ref za), (1, .ref xa), (0, .ref b)]) (kk : ∀ (H1 : Heap) (locs1 : List Loc) (c1 s1 : Nat), c1 ≤ cells + 720 → s1 ≤ slots + 4320 → LSt D cy A xa za (j + 1) H1 → va_S A s.heap H1 locs1 → W p l e room_1 s m #[Value.ref b] below meth c H1 locs1 c1 s1 (lw_Z below #[Value.ref b] s) (F0 m 1695 ls [])) : W p l e room_1 s m #[Value.ref b] below meth c H locs cells slots (lw_Z below #[Value.ref b] s) (F0 m 1464 ls []) := by
  obtain ⟨hx, hb, hr, hml, hown, hts, hX, hbl, hlocks, hgv⟩ := id C0
  have hg : ∀ w ∈ lw_good, w.before #[Value.ref b] s = true := fun w h => hts w (List.mem_filter.mp h).1
  have hown : s.vm.findClass RL = some m.cls := hown
  obtain ⟨n, n3, T, PK, PT, SX, SY, WH, W1, W2, hT, hXS, hZS, hP1, hP2, hD1, hD2, hap⟩ := hLS
  have q1 := inbN (6 * j + 1) Ln (by omega) (by omega)
  have q2 := inbN (6 * j + 2) Ln (by omega) (by omega)
  have q3 : (cells + 0) ≤ 600000 ∧ (slots + 0) ≤ 7302250 := ⟨by omega, by omega⟩
  have q4 : 0 ≤ T ∧ T ≤ 900000 := ⟨by omega, by omega⟩
  have q5 : ((cells + 0) + 0) ≤ 600000 ∧ ((slots + 0) + 0) ≤ 7302250 := ⟨by omega, by omega⟩
  have q6 : ((cells + 0) + 0) ≤ cells + 720 := by omega
  have q7 : ((slots + 0) + 0) ≤ slots + 4320 := by omega
  have q8 : 0 ≤ (T + 1) ∧ (T + 1) ≤ ((j + 1 : Nat) : Int) := ⟨by omega, by omega⟩
  refine lv_aload_n hx hb dL_law_1464 rfl (lv_at hl 2 rfl) ?_
  refine lv_aload_n hx hb dL_law_1465 rfl (lv_at hl 3 rfl) ?_
  refine lv_iload_n hx hb dL_law_1466 rfl (lv_at hl 0 rfl) ?_
  refine lv_iconst (v := 1) hx hb dL_law_1467 (by decide) ?_
  refine lv_iadd hx hb dL_law_1468 ?_
  refine lv_topi (fun f1 ef1 => ?_)
  obtain rfl : f1 = nI (6 * j + 1) := ef1.trans (nI_add (6 * j) 1)
  refine va_sld hx hb hX hbl hbA hS q1 dL_law_1469 ?_
  refine lv_aload_n hx hb dL_law_1470 rfl (lv_at hl 3 rfl) ?_
  refine lv_iload_n hx hb dL_law_1471 rfl (lv_at hl 0 rfl) ?_
  refine lv_iconst (v := 2) hx hb dL_law_1472 (by decide) ?_
  refine lv_iadd hx hb dL_law_1473 ?_
  refine lv_topi (fun f2 ef2 => ?_)
  obtain rfl : f2 = nI (6 * j + 2) := ef2.trans (nI_add (6 * j) 2)
  refine va_sld hx hb hX hbl hbA hS q2 dL_law_1474 ?_
  refine cx_told C0 hA hN hK hST (xs ((nI (6 * j + 1)) : Int32).toNatClampNeg) (xs ((nI (6 * j + 2)) : Int32).toNatClampNeg) q3 q4 hZS.svhi hXS hP1 hP2 hD1 hap hS hl (fun r3 W1 H locs hXS hP1 hP2 hD1 hap hS => ?_)
  refine lv_pop hx hb dL_law_1478 rfl ?_
  refine lv_aload_n hx hb dL_law_1479 rfl (lv_at hl 1 rfl) ?_
  refine lv_aload_n hx hb dL_law_1480 rfl (lv_at hl 3 rfl) ?_
  refine lv_iload_n hx hb dL_law_1481 rfl (lv_at hl 0 rfl) ?_
  refine lv_iconst (v := 1) hx hb dL_law_1482 (by decide) ?_
  refine lv_iadd hx hb dL_law_1483 ?_
  refine lv_topi (fun f4 ef4 => ?_)
  obtain rfl : f4 = nI (6 * j + 1) := ef4.trans (nI_add (6 * j) 1)
  refine va_sld hx hb hX hbl hbA hS q1 dL_law_1484 ?_
  refine lv_aload_n hx hb dL_law_1485 rfl (lv_at hl 3 rfl) ?_
  refine lv_iload_n hx hb dL_law_1486 rfl (lv_at hl 0 rfl) ?_
  refine lv_iconst (v := 2) hx hb dL_law_1487 (by decide) ?_
  refine lv_iadd hx hb dL_law_1488 ?_
  refine lv_topi (fun f5 ef5 => ?_)
  obtain rfl : f5 = nI (6 * j + 2) := ef5.trans (nI_add (6 * j) 2)
  refine va_sld hx hb hX hbl hbA hS q2 dL_law_1489 ?_
  refine cz_told C0 hA hN hK hST (xs ((nI (6 * j + 1)) : Int32).toNatClampNeg) (xs ((nI (6 * j + 2)) : Int32).toNatClampNeg) q5 hZS hP2 hP1 hD2 hap.sy hS hl (fun r6 W2 H locs hZS hP2 hP1 hD2 hap hS => ?_)
  have hap := hap.sy
  have hXS := hXS.imp (Q := PS _ _ (T + 1) _ _ _ _ _) (fun x0 x2 x5 x6 x8 x7 x9 x10 K L M h => h)
  refine lv_pop hx hb dL_law_1493 rfl ?_
  refine lv_goto (tgt := 1695) hx hb dL_law_1494 (by decide) ?_
  exact kk H locs _ _ q6 q7 ⟨_, _, (T + 1), _, _, _, _, _, _, _, q8, hXS, hZS, hP1, hP2, hD1, hD2, hap⟩ hS
set_option maxHeartbeats 4000000 in
set_option maxRecDepth 100000 in
theorem law_c31 {p : Program} {l : Launch} {e : Env} {s : State} {m : MethodId} {below : List Frame} {meth : Method} {c : Code} {b Ln : Nat} {xs : Nat → Int32} (C0 : lw_At p s m meth c b Ln xs) {D : va_G} {cy : Nat → ClassId} {A : Nat → Prop} (hA : ∀ q, s.heap.size ≤ q → A q) (hA2 : ∀ q, A q → s.heap.size ≤ q) (hbA : ¬ A b) (hN : NW s) (hK : va_K D vwCl (tysC cy) s) (hST : STAT A s) {xa za : Nat} {j : Nat} {H : Heap} {locs : List Loc} {cells slots : Nat} {ls : Array Slot} (hj : 6 * j + 6 ≤ Ln) (hLn : Ln ≤ 3072) (hc : cells + 720 ≤ 600000) (hs : slots + 4320 ≤ 7302250) (hLS : LSt D cy A xa za j H) (hS : va_S A s.heap H locs) (hl : lv_has ls 4 [(3, .int (nI (6 * j))), (2, .ref za), (1, .ref xa), (0, .ref b)]) (kk : ∀ (H1 : Heap) (locs1 : List Loc) (c1 s1 : Nat), c1 ≤ cells + 720 → s1 ≤ slots + 4320 → LSt D cy A xa za (j + 1) H1 → va_S A s.heap H1 locs1 → W p l e room_1 s m #[Value.ref b] below meth c H1 locs1 c1 s1 (lw_Z below #[Value.ref b] s) (F0 m 1695 ls [])) : W p l e room_1 s m #[Value.ref b] below meth c H locs cells slots (lw_Z below #[Value.ref b] s) (F0 m 1497 ls []) := by
  obtain ⟨hx, hb, hr, hml, hown, hts, hX, hbl, hlocks, hgv⟩ := id C0
  have hg : ∀ w ∈ lw_good, w.before #[Value.ref b] s = true := fun w h => hts w (List.mem_filter.mp h).1
  have hown : s.vm.findClass RL = some m.cls := hown
  obtain ⟨n, n3, T, PK, PT, SX, SY, WH, W1, W2, hT, hXS, hZS, hP1, hP2, hD1, hD2, hap⟩ := hLS
  have q1 := inbN (6 * j + 1) Ln (by omega) (by omega)
  have q2 := inbN (6 * j + 2) Ln (by omega) (by omega)
  have q3 := inbN (6 * j + 3) Ln (by omega) (by omega)
  have q4 : (cells + 0) ≤ 600000 ∧ (slots + 0) ≤ 7302250 := ⟨by omega, by omega⟩
  have q5 : 0 ≤ T ∧ T ≤ 900000 := ⟨by omega, by omega⟩
  have q6 : ((cells + 0) + 0) ≤ 600000 ∧ ((slots + 0) + 0) ≤ 7302250 := ⟨by omega, by omega⟩
  have q7 : ((cells + 0) + 0) ≤ cells + 720 := by omega
  have q8 : ((slots + 0) + 0) ≤ slots + 4320 := by omega
  have q9 : 0 ≤ (T + 1) ∧ (T + 1) ≤ ((j + 1 : Nat) : Int) := ⟨by omega, by omega⟩
  refine lv_aload_n hx hb dL_law_1497 rfl (lv_at hl 2 rfl) ?_
  refine lv_aload_n hx hb dL_law_1498 rfl (lv_at hl 3 rfl) ?_
  refine lv_iload_n hx hb dL_law_1499 rfl (lv_at hl 0 rfl) ?_
  refine lv_iconst (v := 1) hx hb dL_law_1500 (by decide) ?_
  refine lv_iadd hx hb dL_law_1501 ?_
  refine lv_topi (fun f1 ef1 => ?_)
  obtain rfl : f1 = nI (6 * j + 1) := ef1.trans (nI_add (6 * j) 1)
  refine va_sld hx hb hX hbl hbA hS q1 dL_law_1502 ?_
  refine lv_aload_n hx hb dL_law_1503 rfl (lv_at hl 3 rfl) ?_
  refine lv_iload_n hx hb dL_law_1504 rfl (lv_at hl 0 rfl) ?_
  refine lv_iconst (v := 2) hx hb dL_law_1505 (by decide) ?_
  refine lv_iadd hx hb dL_law_1506 ?_
  refine lv_topi (fun f2 ef2 => ?_)
  obtain rfl : f2 = nI (6 * j + 2) := ef2.trans (nI_add (6 * j) 2)
  refine va_sld hx hb hX hbl hbA hS q2 dL_law_1507 ?_
  refine lv_aload_n hx hb dL_law_1508 rfl (lv_at hl 3 rfl) ?_
  refine lv_iload_n hx hb dL_law_1509 rfl (lv_at hl 0 rfl) ?_
  refine lv_iconst (v := 3) hx hb dL_law_1510 (by decide) ?_
  refine lv_iadd hx hb dL_law_1511 ?_
  refine lv_topi (fun f3 ef3 => ?_)
  obtain rfl : f3 = nI (6 * j + 3) := ef3.trans (nI_add (6 * j) 3)
  refine va_sld hx hb hX hbl hbA hS q3 dL_law_1512 ?_
  refine cx_sum C0 hA hN hK hST (xs ((nI (6 * j + 1)) : Int32).toNatClampNeg) (xs ((nI (6 * j + 2)) : Int32).toNatClampNeg) (xs ((nI (6 * j + 3)) : Int32).toNatClampNeg) q4 q5 hZS.svhi hXS hP1 hP2 hD1 hap hS hl (fun r4 W1 H locs hXS hP1 hP2 hD1 hap hS => ?_)
  refine lv_pop2_2 hx hb dL_law_1516 rfl ?_
  refine lv_aload_n hx hb dL_law_1517 rfl (lv_at hl 1 rfl) ?_
  refine lv_aload_n hx hb dL_law_1518 rfl (lv_at hl 3 rfl) ?_
  refine lv_iload_n hx hb dL_law_1519 rfl (lv_at hl 0 rfl) ?_
  refine lv_iconst (v := 1) hx hb dL_law_1520 (by decide) ?_
  refine lv_iadd hx hb dL_law_1521 ?_
  refine lv_topi (fun f5 ef5 => ?_)
  obtain rfl : f5 = nI (6 * j + 1) := ef5.trans (nI_add (6 * j) 1)
  refine va_sld hx hb hX hbl hbA hS q1 dL_law_1522 ?_
  refine lv_aload_n hx hb dL_law_1523 rfl (lv_at hl 3 rfl) ?_
  refine lv_iload_n hx hb dL_law_1524 rfl (lv_at hl 0 rfl) ?_
  refine lv_iconst (v := 2) hx hb dL_law_1525 (by decide) ?_
  refine lv_iadd hx hb dL_law_1526 ?_
  refine lv_topi (fun f6 ef6 => ?_)
  obtain rfl : f6 = nI (6 * j + 2) := ef6.trans (nI_add (6 * j) 2)
  refine va_sld hx hb hX hbl hbA hS q2 dL_law_1527 ?_
  refine lv_aload_n hx hb dL_law_1528 rfl (lv_at hl 3 rfl) ?_
  refine lv_iload_n hx hb dL_law_1529 rfl (lv_at hl 0 rfl) ?_
  refine lv_iconst (v := 3) hx hb dL_law_1530 (by decide) ?_
  refine lv_iadd hx hb dL_law_1531 ?_
  refine lv_topi (fun f7 ef7 => ?_)
  obtain rfl : f7 = nI (6 * j + 3) := ef7.trans (nI_add (6 * j) 3)
  refine va_sld hx hb hX hbl hbA hS q3 dL_law_1532 ?_
  refine cz_sum C0 hA hN hK hST (xs ((nI (6 * j + 1)) : Int32).toNatClampNeg) (xs ((nI (6 * j + 2)) : Int32).toNatClampNeg) (xs ((nI (6 * j + 3)) : Int32).toNatClampNeg) q6 hZS hP2 hP1 hD2 hap.sy hS hl (fun r8 W2 H locs hZS hP2 hP1 hD2 hap hS => ?_)
  have hap := hap.sy
  have hXS := hXS.imp (Q := PS _ _ (T + 1) _ _ _ _ _) (fun x0 x2 x5 x6 x8 x7 x9 x10 K L M h => h)
  refine lv_pop2_2 hx hb dL_law_1536 rfl ?_
  refine lv_goto (tgt := 1695) hx hb dL_law_1537 (by decide) ?_
  exact kk H locs _ _ q7 q8 ⟨_, _, (T + 1), _, _, _, _, _, _, _, q9, hXS, hZS, hP1, hP2, hD1, hD2, hap⟩ hS
set_option maxHeartbeats 4000000 in
set_option maxRecDepth 100000 in
theorem law_c32 {p : Program} {l : Launch} {e : Env} {s : State} {m : MethodId} {below : List Frame} {meth : Method} {c : Code} {b Ln : Nat} {xs : Nat → Int32} (C0 : lw_At p s m meth c b Ln xs) {D : va_G} {cy : Nat → ClassId} {A : Nat → Prop} (hA : ∀ q, s.heap.size ≤ q → A q) (hA2 : ∀ q, A q → s.heap.size ≤ q) (hbA : ¬ A b) (hN : NW s) (hK : va_K D vwCl (tysC cy) s) (hST : STAT A s) {xa za : Nat} {j : Nat} {H : Heap} {locs : List Loc} {cells slots : Nat} {ls : Array Slot} (hj : 6 * j + 6 ≤ Ln) (hLn : Ln ≤ 3072) (hc : cells + 720 ≤ 600000) (hs : slots + 4320 ≤ 7302250) (hLS : LSt D cy A xa za j H) (hS : va_S A s.heap H locs) (hl : lv_has ls 4 [(3, .int (nI (6 * j))), (2, .ref za), (1, .ref xa), (0, .ref b)]) (kk : ∀ (H1 : Heap) (locs1 : List Loc) (c1 s1 : Nat), c1 ≤ cells + 720 → s1 ≤ slots + 4320 → LSt D cy A xa za (j + 1) H1 → va_S A s.heap H1 locs1 → W p l e room_1 s m #[Value.ref b] below meth c H1 locs1 c1 s1 (lw_Z below #[Value.ref b] s) (F0 m 1695 ls [])) : W p l e room_1 s m #[Value.ref b] below meth c H locs cells slots (lw_Z below #[Value.ref b] s) (F0 m 1540 ls []) := by
  obtain ⟨hx, hb, hr, hml, hown, hts, hX, hbl, hlocks, hgv⟩ := id C0
  have hg : ∀ w ∈ lw_good, w.before #[Value.ref b] s = true := fun w h => hts w (List.mem_filter.mp h).1
  have hown : s.vm.findClass RL = some m.cls := hown
  obtain ⟨n, n3, T, PK, PT, SX, SY, WH, W1, W2, hT, hXS, hZS, hP1, hP2, hD1, hD2, hap⟩ := hLS
  have q1 := inbN (6 * j + 1) Ln (by omega) (by omega)
  have q2 := inbN (6 * j + 2) Ln (by omega) (by omega)
  have q3 := inbN (6 * j + 3) Ln (by omega) (by omega)
  have q4 : (cells + 0) ≤ 600000 ∧ (slots + 0) ≤ 7302250 := ⟨by omega, by omega⟩
  have q5 : 0 ≤ T ∧ T ≤ 900000 := ⟨by omega, by omega⟩
  have q6 : ((cells + 0) + 0) ≤ 600000 ∧ ((slots + 0) + 0) ≤ 7302250 := ⟨by omega, by omega⟩
  have q7 : ((cells + 0) + 0) ≤ cells + 720 := by omega
  have q8 : ((slots + 0) + 0) ≤ slots + 4320 := by omega
  have q9 : 0 ≤ (T + 1) ∧ (T + 1) ≤ ((j + 1 : Nat) : Int) := ⟨by omega, by omega⟩
  refine lv_aload_n hx hb dL_law_1540 rfl (lv_at hl 2 rfl) ?_
  refine lv_aload_n hx hb dL_law_1541 rfl (lv_at hl 3 rfl) ?_
  refine lv_iload_n hx hb dL_law_1542 rfl (lv_at hl 0 rfl) ?_
  refine lv_iconst (v := 1) hx hb dL_law_1543 (by decide) ?_
  refine lv_iadd hx hb dL_law_1544 ?_
  refine lv_topi (fun f1 ef1 => ?_)
  obtain rfl : f1 = nI (6 * j + 1) := ef1.trans (nI_add (6 * j) 1)
  refine va_sld hx hb hX hbl hbA hS q1 dL_law_1545 ?_
  refine lv_aload_n hx hb dL_law_1546 rfl (lv_at hl 3 rfl) ?_
  refine lv_iload_n hx hb dL_law_1547 rfl (lv_at hl 0 rfl) ?_
  refine lv_iconst (v := 2) hx hb dL_law_1548 (by decide) ?_
  refine lv_iadd hx hb dL_law_1549 ?_
  refine lv_topi (fun f2 ef2 => ?_)
  obtain rfl : f2 = nI (6 * j + 2) := ef2.trans (nI_add (6 * j) 2)
  refine va_sld hx hb hX hbl hbA hS q2 dL_law_1550 ?_
  refine lv_aload_n hx hb dL_law_1551 rfl (lv_at hl 3 rfl) ?_
  refine lv_iload_n hx hb dL_law_1552 rfl (lv_at hl 0 rfl) ?_
  refine lv_iconst (v := 3) hx hb dL_law_1553 (by decide) ?_
  refine lv_iadd hx hb dL_law_1554 ?_
  refine lv_topi (fun f3 ef3 => ?_)
  obtain rfl : f3 = nI (6 * j + 3) := ef3.trans (nI_add (6 * j) 3)
  refine va_sld hx hb hX hbl hbA hS q3 dL_law_1555 ?_
  refine cx_entry C0 hA hN hK hST (xs ((nI (6 * j + 1)) : Int32).toNatClampNeg) (xs ((nI (6 * j + 2)) : Int32).toNatClampNeg) (xs ((nI (6 * j + 3)) : Int32).toNatClampNeg) q4 q5 hZS.svhi hXS hP1 hP2 hD1 hap hS hl (fun r4 W1 H locs hXS hP1 hP2 hD1 hap hS => ?_)
  refine lv_pop2_2 hx hb dL_law_1559 rfl ?_
  refine lv_aload_n hx hb dL_law_1560 rfl (lv_at hl 1 rfl) ?_
  refine lv_aload_n hx hb dL_law_1561 rfl (lv_at hl 3 rfl) ?_
  refine lv_iload_n hx hb dL_law_1562 rfl (lv_at hl 0 rfl) ?_
  refine lv_iconst (v := 1) hx hb dL_law_1563 (by decide) ?_
  refine lv_iadd hx hb dL_law_1564 ?_
  refine lv_topi (fun f5 ef5 => ?_)
  obtain rfl : f5 = nI (6 * j + 1) := ef5.trans (nI_add (6 * j) 1)
  refine va_sld hx hb hX hbl hbA hS q1 dL_law_1565 ?_
  refine lv_aload_n hx hb dL_law_1566 rfl (lv_at hl 3 rfl) ?_
  refine lv_iload_n hx hb dL_law_1567 rfl (lv_at hl 0 rfl) ?_
  refine lv_iconst (v := 2) hx hb dL_law_1568 (by decide) ?_
  refine lv_iadd hx hb dL_law_1569 ?_
  refine lv_topi (fun f6 ef6 => ?_)
  obtain rfl : f6 = nI (6 * j + 2) := ef6.trans (nI_add (6 * j) 2)
  refine va_sld hx hb hX hbl hbA hS q2 dL_law_1570 ?_
  refine lv_aload_n hx hb dL_law_1571 rfl (lv_at hl 3 rfl) ?_
  refine lv_iload_n hx hb dL_law_1572 rfl (lv_at hl 0 rfl) ?_
  refine lv_iconst (v := 3) hx hb dL_law_1573 (by decide) ?_
  refine lv_iadd hx hb dL_law_1574 ?_
  refine lv_topi (fun f7 ef7 => ?_)
  obtain rfl : f7 = nI (6 * j + 3) := ef7.trans (nI_add (6 * j) 3)
  refine va_sld hx hb hX hbl hbA hS q3 dL_law_1575 ?_
  refine cz_entry C0 hA hN hK hST (xs ((nI (6 * j + 1)) : Int32).toNatClampNeg) (xs ((nI (6 * j + 2)) : Int32).toNatClampNeg) (xs ((nI (6 * j + 3)) : Int32).toNatClampNeg) q6 hZS hP2 hP1 hD2 hap.sy hS hl (fun r8 W2 H locs hZS hP2 hP1 hD2 hap hS => ?_)
  have hap := hap.sy
  have hXS := hXS.imp (Q := PS _ _ (T + 1) _ _ _ _ _) (fun x0 x2 x5 x6 x8 x7 x9 x10 K L M h => h)
  refine lv_pop2_2 hx hb dL_law_1579 rfl ?_
  refine lv_goto (tgt := 1695) hx hb dL_law_1580 (by decide) ?_
  exact kk H locs _ _ q7 q8 ⟨_, _, (T + 1), _, _, _, _, _, _, _, q9, hXS, hZS, hP1, hP2, hD1, hD2, hap⟩ hS
set_option maxHeartbeats 4000000 in
set_option maxRecDepth 100000 in
theorem law_c33 {p : Program} {l : Launch} {e : Env} {s : State} {m : MethodId} {below : List Frame} {meth : Method} {c : Code} {b Ln : Nat} {xs : Nat → Int32} (C0 : lw_At p s m meth c b Ln xs) {D : va_G} {cy : Nat → ClassId} {A : Nat → Prop} (hA : ∀ q, s.heap.size ≤ q → A q) (hA2 : ∀ q, A q → s.heap.size ≤ q) (hbA : ¬ A b) (hN : NW s) (hK : va_K D vwCl (tysC cy) s) (hST : STAT A s) {xa za : Nat} {j : Nat} {H : Heap} {locs : List Loc} {cells slots : Nat} {ls : Array Slot} (hj : 6 * j + 6 ≤ Ln) (hLn : Ln ≤ 3072) (hc : cells + 720 ≤ 600000) (hs : slots + 4320 ≤ 7302250) (hLS : LSt D cy A xa za j H) (hS : va_S A s.heap H locs) (hl : lv_has ls 4 [(3, .int (nI (6 * j))), (2, .ref za), (1, .ref xa), (0, .ref b)]) (kk : ∀ (H1 : Heap) (locs1 : List Loc) (c1 s1 : Nat), c1 ≤ cells + 720 → s1 ≤ slots + 4320 → LSt D cy A xa za (j + 1) H1 → va_S A s.heap H1 locs1 → W p l e room_1 s m #[Value.ref b] below meth c H1 locs1 c1 s1 (lw_Z below #[Value.ref b] s) (F0 m 1695 ls [])) : W p l e room_1 s m #[Value.ref b] below meth c H locs cells slots (lw_Z below #[Value.ref b] s) (F0 m 1583 ls []) := by
  obtain ⟨hx, hb, hr, hml, hown, hts, hX, hbl, hlocks, hgv⟩ := id C0
  have hg : ∀ w ∈ lw_good, w.before #[Value.ref b] s = true := fun w h => hts w (List.mem_filter.mp h).1
  have hown : s.vm.findClass RL = some m.cls := hown
  obtain ⟨n, n3, T, PK, PT, SX, SY, WH, W1, W2, hT, hXS, hZS, hP1, hP2, hD1, hD2, hap⟩ := hLS
  have q1 := inbN (6 * j + 1) Ln (by omega) (by omega)
  have q2 := inbN (6 * j + 2) Ln (by omega) (by omega)
  have q3 := inbN (6 * j + 3) Ln (by omega) (by omega)
  have q4 : (cells + 0) ≤ 600000 ∧ (slots + 0) ≤ 7302250 := ⟨by omega, by omega⟩
  have q5 : 0 ≤ T ∧ T ≤ 900000 := ⟨by omega, by omega⟩
  have q6 : ((cells + 0) + 0) ≤ 600000 ∧ ((slots + 0) + 0) ≤ 7302250 := ⟨by omega, by omega⟩
  have q7 : ((cells + 0) + 0) ≤ cells + 720 := by omega
  have q8 : ((slots + 0) + 0) ≤ slots + 4320 := by omega
  have q9 : 0 ≤ (T + 1) ∧ (T + 1) ≤ ((j + 1 : Nat) : Int) := ⟨by omega, by omega⟩
  refine lv_aload_n hx hb dL_law_1583 rfl (lv_at hl 2 rfl) ?_
  refine lv_aload_n hx hb dL_law_1584 rfl (lv_at hl 3 rfl) ?_
  refine lv_iload_n hx hb dL_law_1585 rfl (lv_at hl 0 rfl) ?_
  refine lv_iconst (v := 1) hx hb dL_law_1586 (by decide) ?_
  refine lv_iadd hx hb dL_law_1587 ?_
  refine lv_topi (fun f1 ef1 => ?_)
  obtain rfl : f1 = nI (6 * j + 1) := ef1.trans (nI_add (6 * j) 1)
  refine va_sld hx hb hX hbl hbA hS q1 dL_law_1588 ?_
  refine lv_aload_n hx hb dL_law_1589 rfl (lv_at hl 3 rfl) ?_
  refine lv_iload_n hx hb dL_law_1590 rfl (lv_at hl 0 rfl) ?_
  refine lv_iconst (v := 2) hx hb dL_law_1591 (by decide) ?_
  refine lv_iadd hx hb dL_law_1592 ?_
  refine lv_topi (fun f2 ef2 => ?_)
  obtain rfl : f2 = nI (6 * j + 2) := ef2.trans (nI_add (6 * j) 2)
  refine va_sld hx hb hX hbl hbA hS q2 dL_law_1593 ?_
  refine lv_i2l hx hb dL_law_1594 rfl ?_
  refine lv_bipush (v := 32) hx hb dL_law_1595 (by decide) ?_
  refine lv_lshl (v := (((xs ((nI (6 * j + 2)) : Int32).toNatClampNeg)).toInt64 <<< ((32 : Int32).toInt64 &&& 63))) hx hb dL_law_1597 rfl ?_
  refine lv_aload_n hx hb dL_law_1598 rfl (lv_at hl 3 rfl) ?_
  refine lv_iload_n hx hb dL_law_1599 rfl (lv_at hl 0 rfl) ?_
  refine lv_iconst (v := 3) hx hb dL_law_1600 (by decide) ?_
  refine lv_iadd hx hb dL_law_1601 ?_
  refine lv_topi (fun f3 ef3 => ?_)
  obtain rfl : f3 = nI (6 * j + 3) := ef3.trans (nI_add (6 * j) 3)
  refine va_sld hx hb hX hbl hbA hS q3 dL_law_1602 ?_
  refine lv_i2l hx hb dL_law_1603 rfl ?_
  refine lv_ldc2 (v := 4294967295) hx hb hown (hg _ wd_1227) dL_law_1604 ?_
  refine lv_land hx hb dL_law_1607 ?_
  refine lv_lor hx hb dL_law_1608 ?_
  refine cx_sheet C0 hA hN hK hST (xs ((nI (6 * j + 1)) : Int32).toNatClampNeg) ((((xs ((nI (6 * j + 2)) : Int32).toNatClampNeg)).toInt64 <<< ((32 : Int32).toInt64 &&& 63)) ||| (((xs ((nI (6 * j + 3)) : Int32).toNatClampNeg)).toInt64 &&& 4294967295)) q4 q5 hZS.svhi hXS hP1 hP2 hD1 hap hS hl (fun r4 W1 H locs hXS hP1 hP2 hD1 hap hS => ?_)
  refine lv_pop hx hb dL_law_1612 rfl ?_
  refine lv_aload_n hx hb dL_law_1613 rfl (lv_at hl 1 rfl) ?_
  refine lv_aload_n hx hb dL_law_1614 rfl (lv_at hl 3 rfl) ?_
  refine lv_iload_n hx hb dL_law_1615 rfl (lv_at hl 0 rfl) ?_
  refine lv_iconst (v := 1) hx hb dL_law_1616 (by decide) ?_
  refine lv_iadd hx hb dL_law_1617 ?_
  refine lv_topi (fun f5 ef5 => ?_)
  obtain rfl : f5 = nI (6 * j + 1) := ef5.trans (nI_add (6 * j) 1)
  refine va_sld hx hb hX hbl hbA hS q1 dL_law_1618 ?_
  refine lv_aload_n hx hb dL_law_1619 rfl (lv_at hl 3 rfl) ?_
  refine lv_iload_n hx hb dL_law_1620 rfl (lv_at hl 0 rfl) ?_
  refine lv_iconst (v := 2) hx hb dL_law_1621 (by decide) ?_
  refine lv_iadd hx hb dL_law_1622 ?_
  refine lv_topi (fun f6 ef6 => ?_)
  obtain rfl : f6 = nI (6 * j + 2) := ef6.trans (nI_add (6 * j) 2)
  refine va_sld hx hb hX hbl hbA hS q2 dL_law_1623 ?_
  refine lv_i2l hx hb dL_law_1624 rfl ?_
  refine lv_bipush (v := 32) hx hb dL_law_1625 (by decide) ?_
  refine lv_lshl (v := (((xs ((nI (6 * j + 2)) : Int32).toNatClampNeg)).toInt64 <<< ((32 : Int32).toInt64 &&& 63))) hx hb dL_law_1627 rfl ?_
  refine lv_aload_n hx hb dL_law_1628 rfl (lv_at hl 3 rfl) ?_
  refine lv_iload_n hx hb dL_law_1629 rfl (lv_at hl 0 rfl) ?_
  refine lv_iconst (v := 3) hx hb dL_law_1630 (by decide) ?_
  refine lv_iadd hx hb dL_law_1631 ?_
  refine lv_topi (fun f7 ef7 => ?_)
  obtain rfl : f7 = nI (6 * j + 3) := ef7.trans (nI_add (6 * j) 3)
  refine va_sld hx hb hX hbl hbA hS q3 dL_law_1632 ?_
  refine lv_i2l hx hb dL_law_1633 rfl ?_
  refine lv_ldc2 (v := 4294967295) hx hb hown (hg _ wd_1227) dL_law_1634 ?_
  refine lv_land hx hb dL_law_1637 ?_
  refine lv_lor hx hb dL_law_1638 ?_
  refine cz_sheet C0 hA hN hK hST (xs ((nI (6 * j + 1)) : Int32).toNatClampNeg) ((((xs ((nI (6 * j + 2)) : Int32).toNatClampNeg)).toInt64 <<< ((32 : Int32).toInt64 &&& 63)) ||| (((xs ((nI (6 * j + 3)) : Int32).toNatClampNeg)).toInt64 &&& 4294967295)) q6 hZS hP2 hP1 hD2 hap.sy hS hl (fun r8 W2 H locs hZS hP2 hP1 hD2 hap hS => ?_)
  have hap := hap.sy
  have hXS := hXS.imp (Q := PS _ _ (T + 1) _ _ _ _ _) (fun x0 x2 x5 x6 x8 x7 x9 x10 K L M h => h)
  refine lv_pop hx hb dL_law_1642 rfl ?_
  refine lv_goto (tgt := 1695) hx hb dL_law_1643 (by decide) ?_
  exact kk H locs _ _ q7 q8 ⟨_, _, (T + 1), _, _, _, _, _, _, _, q9, hXS, hZS, hP1, hP2, hD1, hD2, hap⟩ hS
set_option maxHeartbeats 4000000 in
set_option maxRecDepth 100000 in
theorem law_c34 {p : Program} {l : Launch} {e : Env} {s : State} {m : MethodId} {below : List Frame} {meth : Method} {c : Code} {b Ln : Nat} {xs : Nat → Int32} (C0 : lw_At p s m meth c b Ln xs) {D : va_G} {cy : Nat → ClassId} {A : Nat → Prop} (hA : ∀ q, s.heap.size ≤ q → A q) (hA2 : ∀ q, A q → s.heap.size ≤ q) (hbA : ¬ A b) (hN : NW s) (hK : va_K D vwCl (tysC cy) s) (hST : STAT A s) {xa za : Nat} {j : Nat} {H : Heap} {locs : List Loc} {cells slots : Nat} {ls : Array Slot} (hj : 6 * j + 6 ≤ Ln) (hLn : Ln ≤ 3072) (hc : cells + 720 ≤ 600000) (hs : slots + 4320 ≤ 7302250) (hLS : LSt D cy A xa za j H) (hS : va_S A s.heap H locs) (hl : lv_has ls 4 [(3, .int (nI (6 * j))), (2, .ref za), (1, .ref xa), (0, .ref b)]) (kk : ∀ (H1 : Heap) (locs1 : List Loc) (c1 s1 : Nat), c1 ≤ cells + 720 → s1 ≤ slots + 4320 → LSt D cy A xa za (j + 1) H1 → va_S A s.heap H1 locs1 → W p l e room_1 s m #[Value.ref b] below meth c H1 locs1 c1 s1 (lw_Z below #[Value.ref b] s) (F0 m 1695 ls [])) : W p l e room_1 s m #[Value.ref b] below meth c H locs cells slots (lw_Z below #[Value.ref b] s) (F0 m 1646 ls []) := by
  obtain ⟨hx, hb, hr, hml, hown, hts, hX, hbl, hlocks, hgv⟩ := id C0
  have hg : ∀ w ∈ lw_good, w.before #[Value.ref b] s = true := fun w h => hts w (List.mem_filter.mp h).1
  have hown : s.vm.findClass RL = some m.cls := hown
  obtain ⟨n, n3, T, PK, PT, SX, SY, WH, W1, W2, hT, hXS, hZS, hP1, hP2, hD1, hD2, hap⟩ := hLS
  have q1 := inbN (6 * j + 1) Ln (by omega) (by omega)
  have q2 : (cells + 0) ≤ 600000 ∧ (slots + 0) ≤ 7302250 := ⟨by omega, by omega⟩
  have q3 : 0 ≤ T ∧ T ≤ 900000 := ⟨by omega, by omega⟩
  have q4 : ((cells + 0) + 0) ≤ 600000 ∧ ((slots + 0) + 0) ≤ 7302250 := ⟨by omega, by omega⟩
  have q5 : ((cells + 0) + 0) ≤ cells + 720 := by omega
  have q6 : ((slots + 0) + 0) ≤ slots + 4320 := by omega
  have q7 : 0 ≤ (T + 1) ∧ (T + 1) ≤ ((j + 1 : Nat) : Int) := ⟨by omega, by omega⟩
  refine lv_aload_n hx hb dL_law_1646 rfl (lv_at hl 2 rfl) ?_
  refine lv_aload_n hx hb dL_law_1647 rfl (lv_at hl 3 rfl) ?_
  refine lv_iload_n hx hb dL_law_1648 rfl (lv_at hl 0 rfl) ?_
  refine lv_iconst (v := 1) hx hb dL_law_1649 (by decide) ?_
  refine lv_iadd hx hb dL_law_1650 ?_
  refine lv_topi (fun f1 ef1 => ?_)
  obtain rfl : f1 = nI (6 * j + 1) := ef1.trans (nI_add (6 * j) 1)
  refine va_sld hx hb hX hbl hbA hS q1 dL_law_1651 ?_
  refine cx_check C0 hA hN hK hST (xs ((nI (6 * j + 1)) : Int32).toNatClampNeg) q2 q3 hZS.svhi hXS hP1 hP2 hD1 hap hS hl (fun r2 W1 H locs hXS hP1 hP2 hD1 hap hS => ?_)
  refine lv_pop hx hb dL_law_1655 rfl ?_
  refine lv_aload_n hx hb dL_law_1656 rfl (lv_at hl 1 rfl) ?_
  refine lv_aload_n hx hb dL_law_1657 rfl (lv_at hl 3 rfl) ?_
  refine lv_iload_n hx hb dL_law_1658 rfl (lv_at hl 0 rfl) ?_
  refine lv_iconst (v := 1) hx hb dL_law_1659 (by decide) ?_
  refine lv_iadd hx hb dL_law_1660 ?_
  refine lv_topi (fun f3 ef3 => ?_)
  obtain rfl : f3 = nI (6 * j + 1) := ef3.trans (nI_add (6 * j) 1)
  refine va_sld hx hb hX hbl hbA hS q1 dL_law_1661 ?_
  refine cz_check C0 hA hN hK hST (xs ((nI (6 * j + 1)) : Int32).toNatClampNeg) q4 hZS hP2 hP1 hD2 hap.sy hS hl (fun r4 W2 H locs hZS hP2 hP1 hD2 hap hS => ?_)
  have hap := hap.sy
  have hXS := hXS.imp (Q := PS _ _ (T + 1) _ _ _ _ _) (fun x0 x2 x5 x6 x8 x7 x9 x10 K L M h => h)
  refine lv_pop hx hb dL_law_1665 rfl ?_
  refine lv_goto (tgt := 1695) hx hb dL_law_1666 (by decide) ?_
  exact kk H locs _ _ q5 q6 ⟨_, _, (T + 1), _, _, _, _, _, _, _, q7, hXS, hZS, hP1, hP2, hD1, hD2, hap⟩ hS
set_option maxHeartbeats 4000000 in
set_option maxRecDepth 100000 in
theorem law_c35 {p : Program} {l : Launch} {e : Env} {s : State} {m : MethodId} {below : List Frame} {meth : Method} {c : Code} {b Ln : Nat} {xs : Nat → Int32} (C0 : lw_At p s m meth c b Ln xs) {D : va_G} {cy : Nat → ClassId} {A : Nat → Prop} (hA : ∀ q, s.heap.size ≤ q → A q) (hA2 : ∀ q, A q → s.heap.size ≤ q) (hbA : ¬ A b) (hN : NW s) (hK : va_K D vwCl (tysC cy) s) (hST : STAT A s) {xa za : Nat} {j : Nat} {H : Heap} {locs : List Loc} {cells slots : Nat} {ls : Array Slot} (hj : 6 * j + 6 ≤ Ln) (hLn : Ln ≤ 3072) (hc : cells + 720 ≤ 600000) (hs : slots + 4320 ≤ 7302250) (hLS : LSt D cy A xa za j H) (hS : va_S A s.heap H locs) (hl : lv_has ls 4 [(3, .int (nI (6 * j))), (2, .ref za), (1, .ref xa), (0, .ref b)]) (kk : ∀ (H1 : Heap) (locs1 : List Loc) (c1 s1 : Nat), c1 ≤ cells + 720 → s1 ≤ slots + 4320 → LSt D cy A xa za (j + 1) H1 → va_S A s.heap H1 locs1 → W p l e room_1 s m #[Value.ref b] below meth c H1 locs1 c1 s1 (lw_Z below #[Value.ref b] s) (F0 m 1695 ls [])) : W p l e room_1 s m #[Value.ref b] below meth c H locs cells slots (lw_Z below #[Value.ref b] s) (F0 m 1669 ls []) := by
  obtain ⟨hx, hb, hr, hml, hown, hts, hX, hbl, hlocks, hgv⟩ := id C0
  have hg : ∀ w ∈ lw_good, w.before #[Value.ref b] s = true := fun w h => hts w (List.mem_filter.mp h).1
  have hown : s.vm.findClass RL = some m.cls := hown
  obtain ⟨n, n3, T, PK, PT, SX, SY, WH, W1, W2, hT, hXS, hZS, hP1, hP2, hD1, hD2, hap⟩ := hLS
  have q1 : (cells + 0) ≤ 600000 ∧ (slots + 0) ≤ 7302250 := ⟨by omega, by omega⟩
  have q2 : 0 ≤ T ∧ T ≤ 900000 := ⟨by omega, by omega⟩
  have q3 : ((cells + 0) + 0) ≤ 600000 ∧ ((slots + 0) + 0) ≤ 7302250 := ⟨by omega, by omega⟩
  have q4 : ((cells + 0) + 0) ≤ cells + 720 := by omega
  have q5 : ((slots + 0) + 0) ≤ slots + 4320 := by omega
  have q6 : 0 ≤ (T + 1) ∧ (T + 1) ≤ ((j + 1 : Nat) : Int) := ⟨by omega, by omega⟩
  refine lv_aload_n hx hb dL_law_1669 rfl (lv_at hl 2 rfl) ?_
  refine cx_status C0 hA hN hK hST  q1 q2 hZS.svhi hXS hP1 hP2 hD1 hap hS hl (fun r1 W1 H locs hXS hP1 hP2 hD1 hap hS => ?_)
  refine lv_pop hx hb dL_law_1673 rfl ?_
  refine lv_aload_n hx hb dL_law_1674 rfl (lv_at hl 1 rfl) ?_
  refine cz_status C0 hA hN hK hST  q3 hZS hP2 hP1 hD2 hap.sy hS hl (fun r2 W2 H locs hZS hP2 hP1 hD2 hap hS => ?_)
  have hap := hap.sy
  have hXS := hXS.imp (Q := PS _ _ (T + 1) _ _ _ _ _) (fun x0 x2 x5 x6 x8 x7 x9 x10 K L M h => h)
  refine lv_pop hx hb dL_law_1678 rfl ?_
  refine lv_goto (tgt := 1695) hx hb dL_law_1679 (by decide) ?_
  exact kk H locs _ _ q4 q5 ⟨_, _, (T + 1), _, _, _, _, _, _, _, q6, hXS, hZS, hP1, hP2, hD1, hD2, hap⟩ hS
set_option maxHeartbeats 4000000 in
set_option maxRecDepth 100000 in
theorem law_c36 {p : Program} {l : Launch} {e : Env} {s : State} {m : MethodId} {below : List Frame} {meth : Method} {c : Code} {b Ln : Nat} {xs : Nat → Int32} (C0 : lw_At p s m meth c b Ln xs) {D : va_G} {cy : Nat → ClassId} {A : Nat → Prop} (hA : ∀ q, s.heap.size ≤ q → A q) (hA2 : ∀ q, A q → s.heap.size ≤ q) (hbA : ¬ A b) (hN : NW s) (hK : va_K D vwCl (tysC cy) s) (hST : STAT A s) {xa za : Nat} {j : Nat} {H : Heap} {locs : List Loc} {cells slots : Nat} {ls : Array Slot} (hj : 6 * j + 6 ≤ Ln) (hLn : Ln ≤ 3072) (hc : cells + 720 ≤ 600000) (hs : slots + 4320 ≤ 7302250) (hLS : LSt D cy A xa za j H) (hS : va_S A s.heap H locs) (hl : lv_has ls 4 [(3, .int (nI (6 * j))), (2, .ref za), (1, .ref xa), (0, .ref b)]) (kk : ∀ (H1 : Heap) (locs1 : List Loc) (c1 s1 : Nat), c1 ≤ cells + 720 → s1 ≤ slots + 4320 → LSt D cy A xa za (j + 1) H1 → va_S A s.heap H1 locs1 → W p l e room_1 s m #[Value.ref b] below meth c H1 locs1 c1 s1 (lw_Z below #[Value.ref b] s) (F0 m 1695 ls [])) : W p l e room_1 s m #[Value.ref b] below meth c H locs cells slots (lw_Z below #[Value.ref b] s) (F0 m 1682 ls []) := by
  obtain ⟨hx, hb, hr, hml, hown, hts, hX, hbl, hlocks, hgv⟩ := id C0
  have hg : ∀ w ∈ lw_good, w.before #[Value.ref b] s = true := fun w h => hts w (List.mem_filter.mp h).1
  have hown : s.vm.findClass RL = some m.cls := hown
  obtain ⟨n, n3, T, PK, PT, SX, SY, WH, W1, W2, hT, hXS, hZS, hP1, hP2, hD1, hD2, hap⟩ := hLS
  have q1 : (cells + 0) ≤ 600000 ∧ (slots + 0) ≤ 7302250 := ⟨by omega, by omega⟩
  have q2 : 0 ≤ T ∧ T ≤ 900000 := ⟨by omega, by omega⟩
  have q3 : ((cells + 0) + 0) ≤ 600000 ∧ ((slots + 0) + 0) ≤ 7302250 := ⟨by omega, by omega⟩
  have q4 : ((cells + 0) + 0) ≤ cells + 720 := by omega
  have q5 : ((slots + 0) + 0) ≤ slots + 4320 := by omega
  have q6 : 0 ≤ (T + 1) ∧ (T + 1) ≤ ((j + 1 : Nat) : Int) := ⟨by omega, by omega⟩
  refine lv_aload_n hx hb dL_law_1682 rfl (lv_at hl 2 rfl) ?_
  refine cx_where C0 hA hN hK hST  q1 q2 hZS.svhi hXS hP1 hP2 hD1 hap hS hl (fun r1 W1 H locs hr1 hXS hP1 hP2 hD1 hap hS => ?_)
  refine lv_aload_n hx hb dL_law_1686 rfl (lv_at hl 1 rfl) ?_
  refine cz_where C0 hA hN hK hST r1 q3 hZS hP2 hP1 hD2 hap.sy hS hl (fun r2 W2 H locs hr2 hZS hP2 hP1 hD2 hap hS => ?_)
  have hap := hap.sy
  have hXS := hXS.imp (Q := PS _ _ (T + 1) _ _ _ _ _) (fun x0 x2 x5 x6 x8 x7 x9 x10 K L M h => h)
  refine lv_icmp_eq (tgt := 1695) hx hb dL_law_1690 (by decide) (fun _ => ?_) (fun h => absurd (hr1.trans hr2.symm) h)
  exact kk H locs _ _ q4 q5 ⟨_, _, (T + 1), _, _, _, _, _, _, _, q6, hXS, hZS, hP1, hP2, hD1, hD2, hap⟩ hS
theorem lawIn {L j : Nat} (hL : L ≤ 3072) (hj : j ≤ 600) (h : ¬ Int32.ofNat L - 6 < nI (6 * j)) : 6 * j + 6 ≤ L := by
  have h1 := Int32.le_iff_toInt_le.mp (Int32.not_lt.mp h)
  rw [nI_toInt (by omega)] at h1
  have h2 : (Int32.ofNat L - 6).toInt = (L : Int) - 6 := by
    have e : (Int32.ofNat L).toInt = (L : Int) := nI_toInt (by omega)
    rw [Int32.toInt_sub, e, show (6 : Int32).toInt = 6 from rfl]
    apply Int.bmod_eq_of_le <;> omega
  omega
set_option maxHeartbeats 4000000 in
set_option maxRecDepth 100000 in
theorem law_loop {p : Program} {l : Launch} {e : Env} {s : State} {m : MethodId} {below : List Frame} {meth : Method} {c : Code} {b Ln : Nat} {xs : Nat → Int32} (C0 : lw_At p s m meth c b Ln xs) {D : va_G} {cy : Nat → ClassId} {A : Nat → Prop} (hA : ∀ q, s.heap.size ≤ q → A q) (hA2 : ∀ q, A q → s.heap.size ≤ q) (hbA : ¬ A b) (hN : NW s) (hK : va_K D vwCl (tysC cy) s) (hST : STAT A s) {xa za : Nat} (hLn : Ln ≤ 3072) : ∀ (fu j : Nat) (H : Heap) (locs : List Loc) (cells slots : Nat) (ls : Array Slot), 513 - j < fu → j ≤ 512 → cells ≤ 339 + 720 * j → slots ≤ 120166 + 4320 * j → LSt D cy A xa za j H → va_S A s.heap H locs → lv_has ls 4 [(3, .int (nI (6 * j))), (2, .ref za), (1, .ref xa), (0, .ref b)] → W p l e room_1 s m #[Value.ref b] below meth c H locs cells slots (lw_Z below #[Value.ref b] s) (F0 m 18 ls []) := by
  obtain ⟨hx, hb, hr, hml, hown, hts, hX, hbl, hlocks, hgv⟩ := id C0
  have hg : ∀ w ∈ lw_good, w.before #[Value.ref b] s = true := fun w h => hts w (List.mem_filter.mp h).1
  have hown : s.vm.findClass RL = some m.cls := hown
  intro fu
  induction fu with
  | zero => intro j H locs cells slots ls h; exact absurd h (Nat.not_lt_zero _)
  | succ fu ih =>
    intro j H locs cells slots ls hfu hj hc hs hLS hS hl
    have nx : 6 * j + 6 ≤ Ln → ∀ (H1 : Heap) (locs1 : List Loc) (c1 s1 : Nat), c1 ≤ cells + 720 → s1 ≤ slots + 4320 → LSt D cy A xa za (j + 1) H1 → va_S A s.heap H1 locs1 → W p l e room_1 s m #[Value.ref b] below meth c H1 locs1 c1 s1 (lw_Z below #[Value.ref b] s) (F0 m 1695 ls []) := fun hin H1 locs1 c1 s1 g1 g2 g3 g4 => by
      refine lv_iinc (v := (nI (6 * (j + 1)))) (lv' := [(3, .int (nI (6 * (j + 1)))), (2, .ref za), (1, .ref xa), (0, .ref b)]) hx hb dL_law_1695 hl (k := 0) rfl (show nI (6 * j) + 6 = nI (6 * (j + 1)) from nI_add (6 * j) 6) (by decide) rfl (fun ls hl => ?_)
      refine lv_goto (tgt := 18) hx hb dL_law_1698 (by decide) ?_
      exact ih (j + 1) H1 locs1 c1 s1 ls (by omega) (by omega) (by omega) (by omega) g3 g4 hl
    refine lv_iload_n hx hb dL_law_18 rfl (lv_at hl 0 rfl) ?_
    refine lv_aload_n hx hb dL_law_19 rfl (lv_at hl 3 rfl) ?_
    refine va_slen hx hb hX hbl hbA hS dL_law_20 ?_
    refine lv_bipush (v := 6) hx hb dL_law_21 (by decide) ?_
    refine lv_isub hx hb dL_law_23 ?_
    refine lv_icmp_gt (tgt := 1701) hx hb dL_law_24 (by decide) (fun h => ?_) (fun h => ?_)
    · refine lv_iconst (v := 1) hx hb dL_law_1701 (by decide) ?_
      refine va_forget (fun q hq => hA2 _ (hS.2.2 q hq)) ?_
      refine W.widen (k := 600000) (n := 7302250) (by omega) (by omega) ?_
      exact lw_ret hx hb hr hlocks dL_law_1702
    · have hin : 6 * j + 6 ≤ Ln := lawIn hLn (by omega) h
      refine lv_aload_n hx hb dL_law_27 rfl (lv_at hl 3 rfl) ?_
      refine lv_iload_n hx hb dL_law_28 rfl (lv_at hl 0 rfl) ?_
      refine va_sld hx hb hX hbl hbA hS (inbN (6 * j) Ln (by omega) (by omega)) dL_law_29 ?_
      refine lv_bipush (v := 63) hx hb dL_law_30 (by decide) ?_
      refine lv_iand hx hb dL_law_32 ?_
      refine lv_topi (fun op eop => ?_)
      by_cases hout : op.toInt < 0 ∨ 36 < op.toInt
      · refine lv_tableOut (tgt := 1695) hx hb dL_law_33 hout (by decide) ?_
        exact nx hin H locs _ _ (by omega) (by omega) hLS.nxt hS
      · obtain ⟨i, hi, hi2⟩ : ∃ i : Nat, i ≤ 36 ∧ op.toInt = (i : Int) := ⟨op.toInt.toNat, by omega, by omega⟩
        rcases (show i = 0 ∨ i = 1 ∨ i = 2 ∨ i = 3 ∨ i = 4 ∨ i = 5 ∨ i = 6 ∨ i = 7 ∨ i = 8 ∨ i = 9 ∨ i = 10 ∨ i = 11 ∨ i = 12 ∨ i = 13 ∨ i = 14 ∨ i = 15 ∨ i = 16 ∨ i = 17 ∨ i = 18 ∨ i = 19 ∨ i = 20 ∨ i = 21 ∨ i = 22 ∨ i = 23 ∨ i = 24 ∨ i = 25 ∨ i = 26 ∨ i = 27 ∨ i = 28 ∨ i = 29 ∨ i = 30 ∨ i = 31 ∨ i = 32 ∨ i = 33 ∨ i = 34 ∨ i = 35 ∨ i = 36 by omega) with rfl | rfl | rfl | rfl | rfl | rfl | rfl | rfl | rfl | rfl | rfl | rfl | rfl | rfl | rfl | rfl | rfl | rfl | rfl | rfl | rfl | rfl | rfl | rfl | rfl | rfl | rfl | rfl | rfl | rfl | rfl | rfl | rfl | rfl | rfl | rfl | rfl
        · refine lv_tableIn (tgt := 196) hx hb dL_law_33 (by omega) (by omega) (by rw [hi2]; rfl) (by decide) ?_
          exact law_c0 C0 hA hA2 hbA hN hK hST hin hLn (by omega) (by omega) hLS hS hl (nx hin)
        · refine lv_tableIn (tgt := 219) hx hb dL_law_33 (by omega) (by omega) (by rw [hi2]; rfl) (by decide) ?_
          exact law_c1 C0 hA hA2 hbA hN hK hST hin hLn (by omega) (by omega) hLS hS hl (nx hin)
        · refine lv_tableIn (tgt := 252) hx hb dL_law_33 (by omega) (by omega) (by rw [hi2]; rfl) (by decide) ?_
          exact law_c2 C0 hA hA2 hbA hN hK hST hin hLn (by omega) (by omega) hLS hS hl (nx hin)
        · refine lv_tableIn (tgt := 295) hx hb dL_law_33 (by omega) (by omega) (by rw [hi2]; rfl) (by decide) ?_
          exact law_c3 C0 hA hA2 hbA hN hK hST hin hLn (by omega) (by omega) hLS hS hl (nx hin)
        · refine lv_tableIn (tgt := 328) hx hb dL_law_33 (by omega) (by omega) (by rw [hi2]; rfl) (by decide) ?_
          exact law_c4 C0 hA hA2 hbA hN hK hST hin hLn (by omega) (by omega) hLS hS hl (nx hin)
        · refine lv_tableIn (tgt := 361) hx hb dL_law_33 (by omega) (by omega) (by rw [hi2]; rfl) (by decide) ?_
          exact law_c5 C0 hA hA2 hbA hN hK hST hin hLn (by omega) (by omega) hLS hS hl (nx hin)
        · refine lv_tableIn (tgt := 440) hx hb dL_law_33 (by omega) (by omega) (by rw [hi2]; rfl) (by decide) ?_
          exact law_c6 C0 hA hA2 hbA hN hK hST hin hLn (by omega) (by omega) hLS hS hl (nx hin)
        · refine lv_tableIn (tgt := 503) hx hb dL_law_33 (by omega) (by omega) (by rw [hi2]; rfl) (by decide) ?_
          exact law_c7 C0 hA hA2 hbA hN hK hST hin hLn (by omega) (by omega) hLS hS hl (nx hin)
        · refine lv_tableIn (tgt := 556) hx hb dL_law_33 (by omega) (by omega) (by rw [hi2]; rfl) (by decide) ?_
          exact law_c8 C0 hA hA2 hbA hN hK hST hin hLn (by omega) (by omega) hLS hS hl (nx hin)
        · refine lv_tableIn (tgt := 579) hx hb dL_law_33 (by omega) (by omega) (by rw [hi2]; rfl) (by decide) ?_
          exact law_c9 C0 hA hA2 hbA hN hK hST hin hLn (by omega) (by omega) hLS hS hl (nx hin)
        · refine lv_tableIn (tgt := 612) hx hb dL_law_33 (by omega) (by omega) (by rw [hi2]; rfl) (by decide) ?_
          exact law_c10 C0 hA hA2 hbA hN hK hST hin hLn (by omega) (by omega) hLS hS hl (nx hin)
        · refine lv_tableIn (tgt := 665) hx hb dL_law_33 (by omega) (by omega) (by rw [hi2]; rfl) (by decide) ?_
          exact law_c11 C0 hA hA2 hbA hN hK hST hin hLn (by omega) (by omega) hLS hS hl (nx hin)
        · refine lv_tableIn (tgt := 718) hx hb dL_law_33 (by omega) (by omega) (by rw [hi2]; rfl) (by decide) ?_
          exact law_c12 C0 hA hA2 hbA hN hK hST hin hLn (by omega) (by omega) hLS hS hl (nx hin)
        · refine lv_tableIn (tgt := 751) hx hb dL_law_33 (by omega) (by omega) (by rw [hi2]; rfl) (by decide) ?_
          exact law_c13 C0 hA hA2 hbA hN hK hST hin hLn (by omega) (by omega) hLS hS hl (nx hin)
        · refine lv_tableIn (tgt := 794) hx hb dL_law_33 (by omega) (by omega) (by rw [hi2]; rfl) (by decide) ?_
          exact law_c14 C0 hA hA2 hbA hN hK hST hin hLn (by omega) (by omega) hLS hS hl (nx hin)
        · refine lv_tableIn (tgt := 837) hx hb dL_law_33 (by omega) (by omega) (by rw [hi2]; rfl) (by decide) ?_
          exact law_c15 C0 hA hA2 hbA hN hK hST hin hLn (by omega) (by omega) hLS hS hl (nx hin)
        · refine lv_tableIn (tgt := 870) hx hb dL_law_33 (by omega) (by omega) (by rw [hi2]; rfl) (by decide) ?_
          exact law_c16 C0 hA hA2 hbA hN hK hST hin hLn (by omega) (by omega) hLS hS hl (nx hin)
        · refine lv_tableIn (tgt := 949) hx hb dL_law_33 (by omega) (by omega) (by rw [hi2]; rfl) (by decide) ?_
          exact law_c17 C0 hA hA2 hbA hN hK hST hin hLn (by omega) (by omega) hLS hS hl (nx hin)
        · refine lv_tableIn (tgt := 1018) hx hb dL_law_33 (by omega) (by omega) (by rw [hi2]; rfl) (by decide) ?_
          exact law_c18 C0 hA hA2 hbA hN hK hST hin hLn (by omega) (by omega) hLS hS hl (nx hin)
        · refine lv_tableIn (tgt := 1041) hx hb dL_law_33 (by omega) (by omega) (by rw [hi2]; rfl) (by decide) ?_
          exact law_c19 C0 hA hA2 hbA hN hK hST hin hLn (by omega) (by omega) hLS hS hl (nx hin)
        · refine lv_tableIn (tgt := 1074) hx hb dL_law_33 (by omega) (by omega) (by rw [hi2]; rfl) (by decide) ?_
          exact law_c20 C0 hA hA2 hbA hN hK hST hin hLn (by omega) (by omega) hLS hS hl (nx hin)
        · refine lv_tableIn (tgt := 1097) hx hb dL_law_33 (by omega) (by omega) (by rw [hi2]; rfl) (by decide) ?_
          exact law_c21 C0 hA hA2 hbA hN hK hST hin hLn (by omega) (by omega) hLS hS hl (nx hin)
        · refine lv_tableIn (tgt := 1140) hx hb dL_law_33 (by omega) (by omega) (by rw [hi2]; rfl) (by decide) ?_
          exact law_c22 C0 hA hA2 hbA hN hK hST hin hLn (by omega) (by omega) hLS hS hl (nx hin)
        · refine lv_tableIn (tgt := 1183) hx hb dL_law_33 (by omega) (by omega) (by rw [hi2]; rfl) (by decide) ?_
          exact law_c23 C0 hA hA2 hbA hN hK hST hin hLn (by omega) (by omega) hLS hS hl (nx hin)
        · refine lv_tableIn (tgt := 1226) hx hb dL_law_33 (by omega) (by omega) (by rw [hi2]; rfl) (by decide) ?_
          exact law_c24 C0 hA hA2 hbA hN hK hST hin hLn (by omega) (by omega) hLS hS hl (nx hin)
        · refine lv_tableIn (tgt := 1249) hx hb dL_law_33 (by omega) (by omega) (by rw [hi2]; rfl) (by decide) ?_
          exact law_c25 C0 hA hA2 hbA hN hK hST hin hLn (by omega) (by omega) hLS hS hl (nx hin)
        · refine lv_tableIn (tgt := 1292) hx hb dL_law_33 (by omega) (by omega) (by rw [hi2]; rfl) (by decide) ?_
          exact law_c26 C0 hA hA2 hbA hN hK hST hin hLn (by omega) (by omega) hLS hS hl (nx hin)
        · refine lv_tableIn (tgt := 1335) hx hb dL_law_33 (by omega) (by omega) (by rw [hi2]; rfl) (by decide) ?_
          exact law_c27 C0 hA hA2 hbA hN hK hST hin hLn (by omega) (by omega) hLS hS hl (nx hin)
        · refine lv_tableIn (tgt := 1378) hx hb dL_law_33 (by omega) (by omega) (by rw [hi2]; rfl) (by decide) ?_
          exact law_c28 C0 hA hA2 hbA hN hK hST hin hLn (by omega) (by omega) hLS hS hl (nx hin)
        · refine lv_tableIn (tgt := 1421) hx hb dL_law_33 (by omega) (by omega) (by rw [hi2]; rfl) (by decide) ?_
          exact law_c29 C0 hA hA2 hbA hN hK hST hin hLn (by omega) (by omega) hLS hS hl (nx hin)
        · refine lv_tableIn (tgt := 1464) hx hb dL_law_33 (by omega) (by omega) (by rw [hi2]; rfl) (by decide) ?_
          exact law_c30 C0 hA hA2 hbA hN hK hST hin hLn (by omega) (by omega) hLS hS hl (nx hin)
        · refine lv_tableIn (tgt := 1497) hx hb dL_law_33 (by omega) (by omega) (by rw [hi2]; rfl) (by decide) ?_
          exact law_c31 C0 hA hA2 hbA hN hK hST hin hLn (by omega) (by omega) hLS hS hl (nx hin)
        · refine lv_tableIn (tgt := 1540) hx hb dL_law_33 (by omega) (by omega) (by rw [hi2]; rfl) (by decide) ?_
          exact law_c32 C0 hA hA2 hbA hN hK hST hin hLn (by omega) (by omega) hLS hS hl (nx hin)
        · refine lv_tableIn (tgt := 1583) hx hb dL_law_33 (by omega) (by omega) (by rw [hi2]; rfl) (by decide) ?_
          exact law_c33 C0 hA hA2 hbA hN hK hST hin hLn (by omega) (by omega) hLS hS hl (nx hin)
        · refine lv_tableIn (tgt := 1646) hx hb dL_law_33 (by omega) (by omega) (by rw [hi2]; rfl) (by decide) ?_
          exact law_c34 C0 hA hA2 hbA hN hK hST hin hLn (by omega) (by omega) hLS hS hl (nx hin)
        · refine lv_tableIn (tgt := 1669) hx hb dL_law_33 (by omega) (by omega) (by rw [hi2]; rfl) (by decide) ?_
          exact law_c35 C0 hA hA2 hbA hN hK hST hin hLn (by omega) (by omega) hLS hS hl (nx hin)
        · refine lv_tableIn (tgt := 1682) hx hb dL_law_33 (by omega) (by omega) (by rw [hi2]; rfl) (by decide) ?_
          exact law_c36 C0 hA hA2 hbA hN hK hST hin hLn (by omega) (by omega) hLS hS hl (nx hin)
