theorem dL_at_0 : decode cL_at 0 = .ok (.iload_n 1, 1) := by decide +kernel
theorem dL_at_1 : decode cL_at 1 = .ok (.aload_n 0, 1) := by decide +kernel
theorem dL_at_2 : decode cL_at 2 = .ok (.arraylength, 1) := by decide +kernel
theorem dL_at_3 : decode cL_at 3 = .ok (.if_icmp .ge 9, 3) := by decide +kernel
theorem dL_at_6 : decode cL_at 6 = .ok (.aload_n 0, 1) := by decide +kernel
theorem dL_at_7 : decode cL_at 7 = .ok (.iload_n 1, 1) := by decide +kernel
theorem dL_at_8 : decode cL_at 8 = .ok (.iaload, 1) := by decide +kernel
theorem dL_at_9 : decode cL_at 9 = .ok (.goto 4, 3) := by decide +kernel
theorem dL_at_12 : decode cL_at 12 = .ok (.iconst 0, 1) := by decide +kernel
theorem dL_at_13 : decode cL_at 13 = .ok (.ireturn, 1) := by decide +kernel
theorem dL_some_0 : decode cL_some 0 = .ok (.iload_n 0, 1) := by decide +kernel
theorem dL_some_1 : decode cL_some 1 = .ok (.iload_n 1, 1) := by decide +kernel
theorem dL_some_2 : decode cL_some 2 = .ok (.irem, 1) := by decide +kernel
theorem dL_some_3 : decode cL_some 3 = .ok (.istore_n 2, 1) := by decide +kernel
theorem dL_some_4 : decode cL_some 4 = .ok (.iload_n 2, 1) := by decide +kernel
theorem dL_some_5 : decode cL_some 5 = .ok (.ifCond .ge 9, 3) := by decide +kernel
theorem dL_some_8 : decode cL_some 8 = .ok (.iload_n 2, 1) := by decide +kernel
theorem dL_some_9 : decode cL_some 9 = .ok (.iload_n 1, 1) := by decide +kernel
theorem dL_some_10 : decode cL_some 10 = .ok (.iadd, 1) := by decide +kernel
theorem dL_some_11 : decode cL_some 11 = .ok (.goto 4, 3) := by decide +kernel
theorem dL_some_14 : decode cL_some 14 = .ok (.iload_n 2, 1) := by decide +kernel
theorem dL_some_15 : decode cL_some 15 = .ok (.ireturn, 1) := by decide +kernel
theorem dL_ask_0 : decode cL_ask 0 = .ok (.iload_n 1, 1) := by decide +kernel
theorem dL_ask_1 : decode cL_ask 1 = .ok (.tableswitch 455 67 116 #[383, 287, 455, 243, 455, 455, 215, 455, 455, 254, 455, 455, 455, 455, 455, 430, 400, 455, 455, 455, 455, 455, 455, 455, 455, 455, 455, 455, 455, 455, 408, 455, 455, 455, 455, 356, 273, 444, 455, 455, 455, 455, 455, 455, 455, 455, 455, 419, 295, 316], 215) := by decide +kernel
theorem dL_ask_216 : decode cL_ask 216 = .ok (.aload_n 0, 1) := by decide +kernel
theorem dL_ask_217 : decode cL_ask 217 = .ok (.aload_n 2, 1) := by decide +kernel
theorem dL_ask_218 : decode cL_ask 218 = .ok (.iconst 0, 1) := by decide +kernel
theorem dL_ask_219 : decode cL_ask 219 = .ok (.iaload, 1) := by decide +kernel
theorem dL_ask_220 : decode cL_ask 220 = .ok (.aload_n 2, 1) := by decide +kernel
theorem dL_ask_221 : decode cL_ask 221 = .ok (.iconst 1, 1) := by decide +kernel
theorem dL_ask_222 : decode cL_ask 222 = .ok (.iaload, 1) := by decide +kernel
theorem dL_ask_223 : decode cL_ask 223 = .ok (.iconst 1, 1) := by decide +kernel
theorem dL_ask_224 : decode cL_ask 224 = .ok (.if_icmp .ne 7, 3) := by decide +kernel
theorem dL_ask_227 : decode cL_ask 227 = .ok (.iconst 1, 1) := by decide +kernel
theorem dL_ask_228 : decode cL_ask 228 = .ok (.goto 4, 3) := by decide +kernel
theorem dL_ask_231 : decode cL_ask 231 = .ok (.iconst 0, 1) := by decide +kernel
theorem dL_ask_232 : decode cL_ask 232 = .ok (.invokevirtual 7, 3) := by decide +kernel
theorem dL_ask_235 : decode cL_ask 235 = .ok (.ifCond .eq 7, 3) := by decide +kernel
theorem dL_ask_238 : decode cL_ask 238 = .ok (.iconst 1, 1) := by decide +kernel
theorem dL_ask_239 : decode cL_ask 239 = .ok (.goto 4, 3) := by decide +kernel
theorem dL_ask_242 : decode cL_ask 242 = .ok (.iconst 0, 1) := by decide +kernel
theorem dL_ask_243 : decode cL_ask 243 = .ok (.ireturn, 1) := by decide +kernel
theorem dL_ask_244 : decode cL_ask 244 = .ok (.aload_n 0, 1) := by decide +kernel
theorem dL_ask_245 : decode cL_ask 245 = .ok (.aload_n 2, 1) := by decide +kernel
theorem dL_ask_246 : decode cL_ask 246 = .ok (.iconst 0, 1) := by decide +kernel
theorem dL_ask_247 : decode cL_ask 247 = .ok (.iaload, 1) := by decide +kernel
theorem dL_ask_248 : decode cL_ask 248 = .ok (.aload_n 2, 1) := by decide +kernel
theorem dL_ask_249 : decode cL_ask 249 = .ok (.iconst 1, 1) := by decide +kernel
theorem dL_ask_250 : decode cL_ask 250 = .ok (.iaload, 1) := by decide +kernel
theorem dL_ask_251 : decode cL_ask 251 = .ok (.invokevirtual 13, 3) := by decide +kernel
theorem dL_ask_254 : decode cL_ask 254 = .ok (.ireturn, 1) := by decide +kernel
theorem dL_ask_255 : decode cL_ask 255 = .ok (.aload_n 0, 1) := by decide +kernel
theorem dL_ask_256 : decode cL_ask 256 = .ok (.aload_n 2, 1) := by decide +kernel
theorem dL_ask_257 : decode cL_ask 257 = .ok (.iconst 0, 1) := by decide +kernel
theorem dL_ask_258 : decode cL_ask 258 = .ok (.iaload, 1) := by decide +kernel
theorem dL_ask_259 : decode cL_ask 259 = .ok (.aload_n 2, 1) := by decide +kernel
theorem dL_ask_260 : decode cL_ask 260 = .ok (.iconst 1, 1) := by decide +kernel
theorem dL_ask_261 : decode cL_ask 261 = .ok (.iaload, 1) := by decide +kernel
theorem dL_ask_262 : decode cL_ask 262 = .ok (.invokevirtual 17, 3) := by decide +kernel
theorem dL_ask_265 : decode cL_ask 265 = .ok (.ifCond .eq 7, 3) := by decide +kernel
theorem dL_ask_268 : decode cL_ask 268 = .ok (.iconst 1, 1) := by decide +kernel
theorem dL_ask_269 : decode cL_ask 269 = .ok (.goto 4, 3) := by decide +kernel
theorem dL_ask_272 : decode cL_ask 272 = .ok (.iconst 0, 1) := by decide +kernel
theorem dL_ask_273 : decode cL_ask 273 = .ok (.ireturn, 1) := by decide +kernel
theorem dL_ask_274 : decode cL_ask 274 = .ok (.aload_n 0, 1) := by decide +kernel
theorem dL_ask_275 : decode cL_ask 275 = .ok (.aload_n 2, 1) := by decide +kernel
theorem dL_ask_276 : decode cL_ask 276 = .ok (.iconst 0, 1) := by decide +kernel
theorem dL_ask_277 : decode cL_ask 277 = .ok (.iaload, 1) := by decide +kernel
theorem dL_ask_278 : decode cL_ask 278 = .ok (.aload_n 2, 1) := by decide +kernel
theorem dL_ask_279 : decode cL_ask 279 = .ok (.iconst 1, 1) := by decide +kernel
theorem dL_ask_280 : decode cL_ask 280 = .ok (.iaload, 1) := by decide +kernel
theorem dL_ask_281 : decode cL_ask 281 = .ok (.aload_n 2, 1) := by decide +kernel
theorem dL_ask_282 : decode cL_ask 282 = .ok (.iconst 2, 1) := by decide +kernel
theorem dL_ask_283 : decode cL_ask 283 = .ok (.iaload, 1) := by decide +kernel
theorem dL_ask_284 : decode cL_ask 284 = .ok (.invokevirtual 21, 3) := by decide +kernel
theorem dL_ask_287 : decode cL_ask 287 = .ok (.ireturn, 1) := by decide +kernel
theorem dL_ask_288 : decode cL_ask 288 = .ok (.aload_n 0, 1) := by decide +kernel
theorem dL_ask_289 : decode cL_ask 289 = .ok (.aload_n 2, 1) := by decide +kernel
theorem dL_ask_290 : decode cL_ask 290 = .ok (.iconst 0, 1) := by decide +kernel
theorem dL_ask_291 : decode cL_ask 291 = .ok (.iaload, 1) := by decide +kernel
theorem dL_ask_292 : decode cL_ask 292 = .ok (.invokevirtual 25, 3) := by decide +kernel
theorem dL_ask_295 : decode cL_ask 295 = .ok (.ireturn, 1) := by decide +kernel
theorem dL_ask_296 : decode cL_ask 296 = .ok (.aload_n 0, 1) := by decide +kernel
theorem dL_ask_297 : decode cL_ask 297 = .ok (.aload_n 2, 1) := by decide +kernel
theorem dL_ask_298 : decode cL_ask 298 = .ok (.iconst 0, 1) := by decide +kernel
theorem dL_ask_299 : decode cL_ask 299 = .ok (.iaload, 1) := by decide +kernel
theorem dL_ask_300 : decode cL_ask 300 = .ok (.aload_n 2, 1) := by decide +kernel
theorem dL_ask_301 : decode cL_ask 301 = .ok (.iconst 1, 1) := by decide +kernel
theorem dL_ask_302 : decode cL_ask 302 = .ok (.iaload, 1) := by decide +kernel
theorem dL_ask_303 : decode cL_ask 303 = .ok (.aload_n 2, 1) := by decide +kernel
theorem dL_ask_304 : decode cL_ask 304 = .ok (.iconst 2, 1) := by decide +kernel
theorem dL_ask_305 : decode cL_ask 305 = .ok (.iaload, 1) := by decide +kernel
theorem dL_ask_306 : decode cL_ask 306 = .ok (.aload_n 2, 1) := by decide +kernel
theorem dL_ask_307 : decode cL_ask 307 = .ok (.iconst 3, 1) := by decide +kernel
theorem dL_ask_308 : decode cL_ask 308 = .ok (.iaload, 1) := by decide +kernel
theorem dL_ask_309 : decode cL_ask 309 = .ok (.aload_n 2, 1) := by decide +kernel
theorem dL_ask_310 : decode cL_ask 310 = .ok (.iconst 4, 1) := by decide +kernel
theorem dL_ask_311 : decode cL_ask 311 = .ok (.iaload, 1) := by decide +kernel
theorem dL_ask_312 : decode cL_ask 312 = .ok (.i2c, 1) := by decide +kernel
theorem dL_ask_313 : decode cL_ask 313 = .ok (.invokevirtual 29, 3) := by decide +kernel
theorem dL_ask_316 : decode cL_ask 316 = .ok (.ireturn, 1) := by decide +kernel
theorem dL_ask_317 : decode cL_ask 317 = .ok (.aload_n 0, 1) := by decide +kernel
theorem dL_ask_318 : decode cL_ask 318 = .ok (.aload_n 2, 1) := by decide +kernel
theorem dL_ask_319 : decode cL_ask 319 = .ok (.iconst 0, 1) := by decide +kernel
theorem dL_ask_320 : decode cL_ask 320 = .ok (.iaload, 1) := by decide +kernel
theorem dL_ask_321 : decode cL_ask 321 = .ok (.aload_n 2, 1) := by decide +kernel
theorem dL_ask_322 : decode cL_ask 322 = .ok (.iconst 1, 1) := by decide +kernel
theorem dL_ask_323 : decode cL_ask 323 = .ok (.iaload, 1) := by decide +kernel
theorem dL_ask_324 : decode cL_ask 324 = .ok (.aload_n 2, 1) := by decide +kernel
theorem dL_ask_325 : decode cL_ask 325 = .ok (.iconst 2, 1) := by decide +kernel
theorem dL_ask_326 : decode cL_ask 326 = .ok (.iaload, 1) := by decide +kernel
theorem dL_ask_327 : decode cL_ask 327 = .ok (.aload_n 2, 1) := by decide +kernel
theorem dL_ask_328 : decode cL_ask 328 = .ok (.iconst 3, 1) := by decide +kernel
theorem dL_ask_329 : decode cL_ask 329 = .ok (.iaload, 1) := by decide +kernel
theorem dL_ask_330 : decode cL_ask 330 = .ok (.iconst 1, 1) := by decide +kernel
theorem dL_ask_331 : decode cL_ask 331 = .ok (.if_icmp .ne 7, 3) := by decide +kernel
theorem dL_ask_334 : decode cL_ask 334 = .ok (.iconst 1, 1) := by decide +kernel
theorem dL_ask_335 : decode cL_ask 335 = .ok (.goto 4, 3) := by decide +kernel
theorem dL_ask_338 : decode cL_ask 338 = .ok (.iconst 0, 1) := by decide +kernel
theorem dL_ask_339 : decode cL_ask 339 = .ok (.aload_n 2, 1) := by decide +kernel
theorem dL_ask_340 : decode cL_ask 340 = .ok (.iconst 4, 1) := by decide +kernel
theorem dL_ask_341 : decode cL_ask 341 = .ok (.iaload, 1) := by decide +kernel
theorem dL_ask_342 : decode cL_ask 342 = .ok (.aload_n 2, 1) := by decide +kernel
theorem dL_ask_343 : decode cL_ask 343 = .ok (.iconst 5, 1) := by decide +kernel
theorem dL_ask_344 : decode cL_ask 344 = .ok (.iaload, 1) := by decide +kernel
theorem dL_ask_345 : decode cL_ask 345 = .ok (.aload_n 2, 1) := by decide +kernel
theorem dL_ask_346 : decode cL_ask 346 = .ok (.bipush 6, 2) := by decide +kernel
theorem dL_ask_348 : decode cL_ask 348 = .ok (.iaload, 1) := by decide +kernel
theorem dL_ask_349 : decode cL_ask 349 = .ok (.aload_n 2, 1) := by decide +kernel
theorem dL_ask_350 : decode cL_ask 350 = .ok (.bipush 7, 2) := by decide +kernel
theorem dL_ask_352 : decode cL_ask 352 = .ok (.iaload, 1) := by decide +kernel
theorem dL_ask_353 : decode cL_ask 353 = .ok (.invokevirtual 33, 3) := by decide +kernel
theorem dL_ask_356 : decode cL_ask 356 = .ok (.ireturn, 1) := by decide +kernel
theorem dL_ask_357 : decode cL_ask 357 = .ok (.aload_n 0, 1) := by decide +kernel
theorem dL_ask_358 : decode cL_ask 358 = .ok (.aload_n 2, 1) := by decide +kernel
theorem dL_ask_359 : decode cL_ask 359 = .ok (.iconst 0, 1) := by decide +kernel
theorem dL_ask_360 : decode cL_ask 360 = .ok (.iaload, 1) := by decide +kernel
theorem dL_ask_361 : decode cL_ask 361 = .ok (.aload_n 2, 1) := by decide +kernel
theorem dL_ask_362 : decode cL_ask 362 = .ok (.iconst 1, 1) := by decide +kernel
theorem dL_ask_363 : decode cL_ask 363 = .ok (.iaload, 1) := by decide +kernel
theorem dL_ask_364 : decode cL_ask 364 = .ok (.aload_n 2, 1) := by decide +kernel
theorem dL_ask_365 : decode cL_ask 365 = .ok (.iconst 2, 1) := by decide +kernel
theorem dL_ask_366 : decode cL_ask 366 = .ok (.iaload, 1) := by decide +kernel
theorem dL_ask_367 : decode cL_ask 367 = .ok (.aload_n 2, 1) := by decide +kernel
theorem dL_ask_368 : decode cL_ask 368 = .ok (.iconst 3, 1) := by decide +kernel
theorem dL_ask_369 : decode cL_ask 369 = .ok (.iaload, 1) := by decide +kernel
theorem dL_ask_370 : decode cL_ask 370 = .ok (.aload_n 2, 1) := by decide +kernel
theorem dL_ask_371 : decode cL_ask 371 = .ok (.iconst 4, 1) := by decide +kernel
theorem dL_ask_372 : decode cL_ask 372 = .ok (.iaload, 1) := by decide +kernel
theorem dL_ask_373 : decode cL_ask 373 = .ok (.aload_n 2, 1) := by decide +kernel
theorem dL_ask_374 : decode cL_ask 374 = .ok (.iconst 5, 1) := by decide +kernel
theorem dL_ask_375 : decode cL_ask 375 = .ok (.iaload, 1) := by decide +kernel
theorem dL_ask_376 : decode cL_ask 376 = .ok (.aload_n 2, 1) := by decide +kernel
theorem dL_ask_377 : decode cL_ask 377 = .ok (.bipush 6, 2) := by decide +kernel
theorem dL_ask_379 : decode cL_ask 379 = .ok (.iaload, 1) := by decide +kernel
theorem dL_ask_380 : decode cL_ask 380 = .ok (.invokevirtual 37, 3) := by decide +kernel
theorem dL_ask_383 : decode cL_ask 383 = .ok (.ireturn, 1) := by decide +kernel
theorem dL_ask_384 : decode cL_ask 384 = .ok (.aload_n 0, 1) := by decide +kernel
theorem dL_ask_385 : decode cL_ask 385 = .ok (.aload_n 2, 1) := by decide +kernel
theorem dL_ask_386 : decode cL_ask 386 = .ok (.iconst 0, 1) := by decide +kernel
theorem dL_ask_387 : decode cL_ask 387 = .ok (.iaload, 1) := by decide +kernel
theorem dL_ask_388 : decode cL_ask 388 = .ok (.aload_n 2, 1) := by decide +kernel
theorem dL_ask_389 : decode cL_ask 389 = .ok (.iconst 1, 1) := by decide +kernel
theorem dL_ask_390 : decode cL_ask 390 = .ok (.iaload, 1) := by decide +kernel
theorem dL_ask_391 : decode cL_ask 391 = .ok (.aload_n 2, 1) := by decide +kernel
theorem dL_ask_392 : decode cL_ask 392 = .ok (.iconst 2, 1) := by decide +kernel
theorem dL_ask_393 : decode cL_ask 393 = .ok (.iaload, 1) := by decide +kernel
theorem dL_ask_394 : decode cL_ask 394 = .ok (.aload_n 2, 1) := by decide +kernel
theorem dL_ask_395 : decode cL_ask 395 = .ok (.iconst 3, 1) := by decide +kernel
theorem dL_ask_396 : decode cL_ask 396 = .ok (.iaload, 1) := by decide +kernel
theorem dL_ask_397 : decode cL_ask 397 = .ok (.invokevirtual 41, 3) := by decide +kernel
theorem dL_ask_400 : decode cL_ask 400 = .ok (.ireturn, 1) := by decide +kernel
theorem dL_ask_401 : decode cL_ask 401 = .ok (.aload_n 0, 1) := by decide +kernel
theorem dL_ask_402 : decode cL_ask 402 = .ok (.aload_n 2, 1) := by decide +kernel
theorem dL_ask_403 : decode cL_ask 403 = .ok (.iconst 0, 1) := by decide +kernel
theorem dL_ask_404 : decode cL_ask 404 = .ok (.iaload, 1) := by decide +kernel
theorem dL_ask_405 : decode cL_ask 405 = .ok (.invokevirtual 45, 3) := by decide +kernel
theorem dL_ask_408 : decode cL_ask 408 = .ok (.ireturn, 1) := by decide +kernel
theorem dL_ask_409 : decode cL_ask 409 = .ok (.aload_n 0, 1) := by decide +kernel
theorem dL_ask_410 : decode cL_ask 410 = .ok (.aload_n 2, 1) := by decide +kernel
theorem dL_ask_411 : decode cL_ask 411 = .ok (.iconst 0, 1) := by decide +kernel
theorem dL_ask_412 : decode cL_ask 412 = .ok (.iaload, 1) := by decide +kernel
theorem dL_ask_413 : decode cL_ask 413 = .ok (.aload_n 2, 1) := by decide +kernel
theorem dL_ask_414 : decode cL_ask 414 = .ok (.iconst 1, 1) := by decide +kernel
theorem dL_ask_415 : decode cL_ask 415 = .ok (.iaload, 1) := by decide +kernel
theorem dL_ask_416 : decode cL_ask 416 = .ok (.invokevirtual 48, 3) := by decide +kernel
theorem dL_ask_419 : decode cL_ask 419 = .ok (.ireturn, 1) := by decide +kernel
theorem dL_ask_420 : decode cL_ask 420 = .ok (.aload_n 0, 1) := by decide +kernel
theorem dL_ask_421 : decode cL_ask 421 = .ok (.aload_n 2, 1) := by decide +kernel
theorem dL_ask_422 : decode cL_ask 422 = .ok (.iconst 0, 1) := by decide +kernel
theorem dL_ask_423 : decode cL_ask 423 = .ok (.iaload, 1) := by decide +kernel
theorem dL_ask_424 : decode cL_ask 424 = .ok (.aload_n 2, 1) := by decide +kernel
theorem dL_ask_425 : decode cL_ask 425 = .ok (.iconst 1, 1) := by decide +kernel
theorem dL_ask_426 : decode cL_ask 426 = .ok (.iaload, 1) := by decide +kernel
theorem dL_ask_427 : decode cL_ask 427 = .ok (.invokevirtual 51, 3) := by decide +kernel
theorem dL_ask_430 : decode cL_ask 430 = .ok (.ireturn, 1) := by decide +kernel
theorem dL_ask_431 : decode cL_ask 431 = .ok (.aload_n 0, 1) := by decide +kernel
theorem dL_ask_432 : decode cL_ask 432 = .ok (.aload_n 2, 1) := by decide +kernel
theorem dL_ask_433 : decode cL_ask 433 = .ok (.iconst 0, 1) := by decide +kernel
theorem dL_ask_434 : decode cL_ask 434 = .ok (.iaload, 1) := by decide +kernel
theorem dL_ask_435 : decode cL_ask 435 = .ok (.aload_n 2, 1) := by decide +kernel
theorem dL_ask_436 : decode cL_ask 436 = .ok (.iconst 1, 1) := by decide +kernel
theorem dL_ask_437 : decode cL_ask 437 = .ok (.iaload, 1) := by decide +kernel
theorem dL_ask_438 : decode cL_ask 438 = .ok (.aload_n 2, 1) := by decide +kernel
theorem dL_ask_439 : decode cL_ask 439 = .ok (.iconst 2, 1) := by decide +kernel
theorem dL_ask_440 : decode cL_ask 440 = .ok (.iaload, 1) := by decide +kernel
theorem dL_ask_441 : decode cL_ask 441 = .ok (.invokevirtual 54, 3) := by decide +kernel
theorem dL_ask_444 : decode cL_ask 444 = .ok (.ireturn, 1) := by decide +kernel
theorem dL_ask_445 : decode cL_ask 445 = .ok (.aload_n 0, 1) := by decide +kernel
theorem dL_ask_446 : decode cL_ask 446 = .ok (.aload_n 2, 1) := by decide +kernel
theorem dL_ask_447 : decode cL_ask 447 = .ok (.iconst 0, 1) := by decide +kernel
theorem dL_ask_448 : decode cL_ask 448 = .ok (.iaload, 1) := by decide +kernel
theorem dL_ask_449 : decode cL_ask 449 = .ok (.aload_n 2, 1) := by decide +kernel
theorem dL_ask_450 : decode cL_ask 450 = .ok (.iconst 1, 1) := by decide +kernel
theorem dL_ask_451 : decode cL_ask 451 = .ok (.iaload, 1) := by decide +kernel
theorem dL_ask_452 : decode cL_ask 452 = .ok (.invokevirtual 57, 3) := by decide +kernel
theorem dL_ask_455 : decode cL_ask 455 = .ok (.ireturn, 1) := by decide +kernel
theorem dL_ask_456 : decode cL_ask 456 = .ok (.aload_n 0, 1) := by decide +kernel
theorem dL_ask_457 : decode cL_ask 457 = .ok (.iload_n 1, 1) := by decide +kernel
theorem dL_ask_458 : decode cL_ask 458 = .ok (.aload_n 2, 1) := by decide +kernel
theorem dL_ask_459 : decode cL_ask 459 = .ok (.invokestatic 60, 3) := by decide +kernel
theorem dL_ask_462 : decode cL_ask 462 = .ok (.ireturn, 1) := by decide +kernel
theorem dL_ask_463 : decode cL_ask 463 = .ok (.astore_n 3, 1) := by decide +kernel
theorem dL_ask_464 : decode cL_ask 464 = .ok (.ldc 68, 2) := by decide +kernel
theorem dL_ask_466 : decode cL_ask 466 = .ok (.ireturn, 1) := by decide +kernel
theorem dL_ask_467 : decode cL_ask 467 = .ok (.astore_n 3, 1) := by decide +kernel
theorem dL_ask_468 : decode cL_ask 468 = .ok (.ldc 71, 2) := by decide +kernel
theorem dL_ask_470 : decode cL_ask 470 = .ok (.ireturn, 1) := by decide +kernel
theorem dL_ask_471 : decode cL_ask 471 = .ok (.astore_n 3, 1) := by decide +kernel
theorem dL_ask_472 : decode cL_ask 472 = .ok (.ldc 74, 2) := by decide +kernel
theorem dL_ask_474 : decode cL_ask 474 = .ok (.ireturn, 1) := by decide +kernel
theorem dL_ask_475 : decode cL_ask 475 = .ok (.astore_n 3, 1) := by decide +kernel
theorem dL_ask_476 : decode cL_ask 476 = .ok (.ldc 77, 2) := by decide +kernel
theorem dL_ask_478 : decode cL_ask 478 = .ok (.ireturn, 1) := by decide +kernel
theorem dL_ask_479 : decode cL_ask 479 = .ok (.astore_n 3, 1) := by decide +kernel
theorem dL_ask_480 : decode cL_ask 480 = .ok (.ldc 80, 2) := by decide +kernel
theorem dL_ask_482 : decode cL_ask 482 = .ok (.ireturn, 1) := by decide +kernel
theorem dL_asked_0 : decode cL_asked 0 = .ok (.iload_n 1, 1) := by decide +kernel
theorem dL_asked_1 : decode cL_asked 1 = .ok (.lookupswitch 320 #[(49, 179), (50, 197), (52, 211), (65, 304), (66, 139), (84, 171), (98, 239), (100, 312), (101, 247), (107, 231), (112, 156), (113, 271), (118, 255), (119, 293), (120, 263), (122, 282)], 139) := by decide +kernel
theorem dL_asked_140 : decode cL_asked 140 = .ok (.aload_n 0, 1) := by decide +kernel
theorem dL_asked_141 : decode cL_asked 141 = .ok (.aload_n 2, 1) := by decide +kernel
theorem dL_asked_142 : decode cL_asked 142 = .ok (.iconst 0, 1) := by decide +kernel
theorem dL_asked_143 : decode cL_asked 143 = .ok (.iaload, 1) := by decide +kernel
theorem dL_asked_144 : decode cL_asked 144 = .ok (.aload_n 2, 1) := by decide +kernel
theorem dL_asked_145 : decode cL_asked 145 = .ok (.iconst 1, 1) := by decide +kernel
theorem dL_asked_146 : decode cL_asked 146 = .ok (.iaload, 1) := by decide +kernel
theorem dL_asked_147 : decode cL_asked 147 = .ok (.aload_n 2, 1) := by decide +kernel
theorem dL_asked_148 : decode cL_asked 148 = .ok (.iconst 2, 1) := by decide +kernel
theorem dL_asked_149 : decode cL_asked 149 = .ok (.iaload, 1) := by decide +kernel
theorem dL_asked_150 : decode cL_asked 150 = .ok (.aload_n 2, 1) := by decide +kernel
theorem dL_asked_151 : decode cL_asked 151 = .ok (.iconst 3, 1) := by decide +kernel
theorem dL_asked_152 : decode cL_asked 152 = .ok (.iaload, 1) := by decide +kernel
theorem dL_asked_153 : decode cL_asked 153 = .ok (.invokevirtual 81, 3) := by decide +kernel
theorem dL_asked_156 : decode cL_asked 156 = .ok (.ireturn, 1) := by decide +kernel
theorem dL_asked_157 : decode cL_asked 157 = .ok (.aload_n 0, 1) := by decide +kernel
theorem dL_asked_158 : decode cL_asked 158 = .ok (.aload_n 2, 1) := by decide +kernel
theorem dL_asked_159 : decode cL_asked 159 = .ok (.iconst 0, 1) := by decide +kernel
theorem dL_asked_160 : decode cL_asked 160 = .ok (.iaload, 1) := by decide +kernel
theorem dL_asked_161 : decode cL_asked 161 = .ok (.i2c, 1) := by decide +kernel
theorem dL_asked_162 : decode cL_asked 162 = .ok (.aload_n 2, 1) := by decide +kernel
theorem dL_asked_163 : decode cL_asked 163 = .ok (.iconst 1, 1) := by decide +kernel
theorem dL_asked_164 : decode cL_asked 164 = .ok (.iaload, 1) := by decide +kernel
theorem dL_asked_165 : decode cL_asked 165 = .ok (.aload_n 2, 1) := by decide +kernel
theorem dL_asked_166 : decode cL_asked 166 = .ok (.iconst 2, 1) := by decide +kernel
theorem dL_asked_167 : decode cL_asked 167 = .ok (.iaload, 1) := by decide +kernel
theorem dL_asked_168 : decode cL_asked 168 = .ok (.invokevirtual 85, 3) := by decide +kernel
theorem dL_asked_171 : decode cL_asked 171 = .ok (.ireturn, 1) := by decide +kernel
theorem dL_asked_172 : decode cL_asked 172 = .ok (.aload_n 0, 1) := by decide +kernel
theorem dL_asked_173 : decode cL_asked 173 = .ok (.aload_n 2, 1) := by decide +kernel
theorem dL_asked_174 : decode cL_asked 174 = .ok (.iconst 0, 1) := by decide +kernel
theorem dL_asked_175 : decode cL_asked 175 = .ok (.iaload, 1) := by decide +kernel
theorem dL_asked_176 : decode cL_asked 176 = .ok (.invokevirtual 89, 3) := by decide +kernel
theorem dL_asked_179 : decode cL_asked 179 = .ok (.ireturn, 1) := by decide +kernel
theorem dL_asked_180 : decode cL_asked 180 = .ok (.aload_n 0, 1) := by decide +kernel
theorem dL_asked_181 : decode cL_asked 181 = .ok (.aload_n 2, 1) := by decide +kernel
theorem dL_asked_182 : decode cL_asked 182 = .ok (.iconst 0, 1) := by decide +kernel
theorem dL_asked_183 : decode cL_asked 183 = .ok (.iaload, 1) := by decide +kernel
theorem dL_asked_184 : decode cL_asked 184 = .ok (.aload_n 2, 1) := by decide +kernel
theorem dL_asked_185 : decode cL_asked 185 = .ok (.iconst 1, 1) := by decide +kernel
theorem dL_asked_186 : decode cL_asked 186 = .ok (.iaload, 1) := by decide +kernel
theorem dL_asked_187 : decode cL_asked 187 = .ok (.aload_n 2, 1) := by decide +kernel
theorem dL_asked_188 : decode cL_asked 188 = .ok (.iconst 2, 1) := by decide +kernel
theorem dL_asked_189 : decode cL_asked 189 = .ok (.iaload, 1) := by decide +kernel
theorem dL_asked_190 : decode cL_asked 190 = .ok (.aload_n 2, 1) := by decide +kernel
theorem dL_asked_191 : decode cL_asked 191 = .ok (.iconst 3, 1) := by decide +kernel
theorem dL_asked_192 : decode cL_asked 192 = .ok (.iaload, 1) := by decide +kernel
theorem dL_asked_193 : decode cL_asked 193 = .ok (.i2c, 1) := by decide +kernel
theorem dL_asked_194 : decode cL_asked 194 = .ok (.invokevirtual 92, 3) := by decide +kernel
theorem dL_asked_197 : decode cL_asked 197 = .ok (.ireturn, 1) := by decide +kernel
theorem dL_asked_198 : decode cL_asked 198 = .ok (.aload_n 0, 1) := by decide +kernel
theorem dL_asked_199 : decode cL_asked 199 = .ok (.aload_n 2, 1) := by decide +kernel
theorem dL_asked_200 : decode cL_asked 200 = .ok (.iconst 0, 1) := by decide +kernel
theorem dL_asked_201 : decode cL_asked 201 = .ok (.iaload, 1) := by decide +kernel
theorem dL_asked_202 : decode cL_asked 202 = .ok (.aload_n 2, 1) := by decide +kernel
theorem dL_asked_203 : decode cL_asked 203 = .ok (.iconst 1, 1) := by decide +kernel
theorem dL_asked_204 : decode cL_asked 204 = .ok (.iaload, 1) := by decide +kernel
theorem dL_asked_205 : decode cL_asked 205 = .ok (.aload_n 2, 1) := by decide +kernel
theorem dL_asked_206 : decode cL_asked 206 = .ok (.iconst 2, 1) := by decide +kernel
theorem dL_asked_207 : decode cL_asked 207 = .ok (.iaload, 1) := by decide +kernel
theorem dL_asked_208 : decode cL_asked 208 = .ok (.invokevirtual 96, 3) := by decide +kernel
theorem dL_asked_211 : decode cL_asked 211 = .ok (.ireturn, 1) := by decide +kernel
theorem dL_asked_212 : decode cL_asked 212 = .ok (.aload_n 0, 1) := by decide +kernel
theorem dL_asked_213 : decode cL_asked 213 = .ok (.aload_n 2, 1) := by decide +kernel
theorem dL_asked_214 : decode cL_asked 214 = .ok (.iconst 0, 1) := by decide +kernel
theorem dL_asked_215 : decode cL_asked 215 = .ok (.iaload, 1) := by decide +kernel
theorem dL_asked_216 : decode cL_asked 216 = .ok (.aload_n 2, 1) := by decide +kernel
theorem dL_asked_217 : decode cL_asked 217 = .ok (.iconst 1, 1) := by decide +kernel
theorem dL_asked_218 : decode cL_asked 218 = .ok (.iaload, 1) := by decide +kernel
theorem dL_asked_219 : decode cL_asked 219 = .ok (.aload_n 2, 1) := by decide +kernel
theorem dL_asked_220 : decode cL_asked 220 = .ok (.iconst 2, 1) := by decide +kernel
theorem dL_asked_221 : decode cL_asked 221 = .ok (.iaload, 1) := by decide +kernel
theorem dL_asked_222 : decode cL_asked 222 = .ok (.aload_n 2, 1) := by decide +kernel
theorem dL_asked_223 : decode cL_asked 223 = .ok (.iconst 3, 1) := by decide +kernel
theorem dL_asked_224 : decode cL_asked 224 = .ok (.iaload, 1) := by decide +kernel
theorem dL_asked_225 : decode cL_asked 225 = .ok (.aload_n 2, 1) := by decide +kernel
theorem dL_asked_226 : decode cL_asked 226 = .ok (.iconst 4, 1) := by decide +kernel
theorem dL_asked_227 : decode cL_asked 227 = .ok (.iaload, 1) := by decide +kernel
theorem dL_asked_228 : decode cL_asked 228 = .ok (.invokevirtual 99, 3) := by decide +kernel
theorem dL_asked_231 : decode cL_asked 231 = .ok (.ireturn, 1) := by decide +kernel
theorem dL_asked_232 : decode cL_asked 232 = .ok (.aload_n 0, 1) := by decide +kernel
theorem dL_asked_233 : decode cL_asked 233 = .ok (.aload_n 2, 1) := by decide +kernel
theorem dL_asked_234 : decode cL_asked 234 = .ok (.iconst 0, 1) := by decide +kernel
theorem dL_asked_235 : decode cL_asked 235 = .ok (.iaload, 1) := by decide +kernel
theorem dL_asked_236 : decode cL_asked 236 = .ok (.invokevirtual 103, 3) := by decide +kernel
theorem dL_asked_239 : decode cL_asked 239 = .ok (.ireturn, 1) := by decide +kernel
theorem dL_asked_240 : decode cL_asked 240 = .ok (.aload_n 0, 1) := by decide +kernel
theorem dL_asked_241 : decode cL_asked 241 = .ok (.aload_n 2, 1) := by decide +kernel
theorem dL_asked_242 : decode cL_asked 242 = .ok (.iconst 0, 1) := by decide +kernel
theorem dL_asked_243 : decode cL_asked 243 = .ok (.iaload, 1) := by decide +kernel
theorem dL_asked_244 : decode cL_asked 244 = .ok (.invokevirtual 107, 3) := by decide +kernel
theorem dL_asked_247 : decode cL_asked 247 = .ok (.ireturn, 1) := by decide +kernel
theorem dL_asked_248 : decode cL_asked 248 = .ok (.aload_n 0, 1) := by decide +kernel
theorem dL_asked_249 : decode cL_asked 249 = .ok (.aload_n 2, 1) := by decide +kernel
theorem dL_asked_250 : decode cL_asked 250 = .ok (.iconst 0, 1) := by decide +kernel
theorem dL_asked_251 : decode cL_asked 251 = .ok (.iaload, 1) := by decide +kernel
theorem dL_asked_252 : decode cL_asked 252 = .ok (.invokevirtual 110, 3) := by decide +kernel
theorem dL_asked_255 : decode cL_asked 255 = .ok (.ireturn, 1) := by decide +kernel
theorem dL_asked_256 : decode cL_asked 256 = .ok (.aload_n 0, 1) := by decide +kernel
theorem dL_asked_257 : decode cL_asked 257 = .ok (.aload_n 2, 1) := by decide +kernel
theorem dL_asked_258 : decode cL_asked 258 = .ok (.iconst 0, 1) := by decide +kernel
theorem dL_asked_259 : decode cL_asked 259 = .ok (.iaload, 1) := by decide +kernel
theorem dL_asked_260 : decode cL_asked 260 = .ok (.invokevirtual 113, 3) := by decide +kernel
theorem dL_asked_263 : decode cL_asked 263 = .ok (.ireturn, 1) := by decide +kernel
theorem dL_asked_264 : decode cL_asked 264 = .ok (.aload_n 0, 1) := by decide +kernel
theorem dL_asked_265 : decode cL_asked 265 = .ok (.aload_n 2, 1) := by decide +kernel
theorem dL_asked_266 : decode cL_asked 266 = .ok (.iconst 0, 1) := by decide +kernel
theorem dL_asked_267 : decode cL_asked 267 = .ok (.iaload, 1) := by decide +kernel
theorem dL_asked_268 : decode cL_asked 268 = .ok (.invokevirtual 116, 3) := by decide +kernel
theorem dL_asked_271 : decode cL_asked 271 = .ok (.ireturn, 1) := by decide +kernel
theorem dL_asked_272 : decode cL_asked 272 = .ok (.aload_n 0, 1) := by decide +kernel
theorem dL_asked_273 : decode cL_asked 273 = .ok (.aload_n 2, 1) := by decide +kernel
theorem dL_asked_274 : decode cL_asked 274 = .ok (.iconst 0, 1) := by decide +kernel
theorem dL_asked_275 : decode cL_asked 275 = .ok (.iaload, 1) := by decide +kernel
theorem dL_asked_276 : decode cL_asked 276 = .ok (.aload_n 2, 1) := by decide +kernel
theorem dL_asked_277 : decode cL_asked 277 = .ok (.iconst 1, 1) := by decide +kernel
theorem dL_asked_278 : decode cL_asked 278 = .ok (.iaload, 1) := by decide +kernel
theorem dL_asked_279 : decode cL_asked 279 = .ok (.invokevirtual 119, 3) := by decide +kernel
theorem dL_asked_282 : decode cL_asked 282 = .ok (.ireturn, 1) := by decide +kernel
theorem dL_asked_283 : decode cL_asked 283 = .ok (.aload_n 0, 1) := by decide +kernel
theorem dL_asked_284 : decode cL_asked 284 = .ok (.aload_n 2, 1) := by decide +kernel
theorem dL_asked_285 : decode cL_asked 285 = .ok (.iconst 0, 1) := by decide +kernel
theorem dL_asked_286 : decode cL_asked 286 = .ok (.iaload, 1) := by decide +kernel
theorem dL_asked_287 : decode cL_asked 287 = .ok (.aload_n 2, 1) := by decide +kernel
theorem dL_asked_288 : decode cL_asked 288 = .ok (.iconst 1, 1) := by decide +kernel
theorem dL_asked_289 : decode cL_asked 289 = .ok (.iaload, 1) := by decide +kernel
theorem dL_asked_290 : decode cL_asked 290 = .ok (.invokevirtual 122, 3) := by decide +kernel
theorem dL_asked_293 : decode cL_asked 293 = .ok (.ireturn, 1) := by decide +kernel
theorem dL_asked_294 : decode cL_asked 294 = .ok (.aload_n 0, 1) := by decide +kernel
theorem dL_asked_295 : decode cL_asked 295 = .ok (.aload_n 2, 1) := by decide +kernel
theorem dL_asked_296 : decode cL_asked 296 = .ok (.iconst 0, 1) := by decide +kernel
theorem dL_asked_297 : decode cL_asked 297 = .ok (.iaload, 1) := by decide +kernel
theorem dL_asked_298 : decode cL_asked 298 = .ok (.aload_n 2, 1) := by decide +kernel
theorem dL_asked_299 : decode cL_asked 299 = .ok (.iconst 1, 1) := by decide +kernel
theorem dL_asked_300 : decode cL_asked 300 = .ok (.iaload, 1) := by decide +kernel
theorem dL_asked_301 : decode cL_asked 301 = .ok (.invokevirtual 125, 3) := by decide +kernel
theorem dL_asked_304 : decode cL_asked 304 = .ok (.ireturn, 1) := by decide +kernel
theorem dL_asked_305 : decode cL_asked 305 = .ok (.aload_n 0, 1) := by decide +kernel
theorem dL_asked_306 : decode cL_asked 306 = .ok (.aload_n 2, 1) := by decide +kernel
theorem dL_asked_307 : decode cL_asked 307 = .ok (.iconst 0, 1) := by decide +kernel
theorem dL_asked_308 : decode cL_asked 308 = .ok (.iaload, 1) := by decide +kernel
theorem dL_asked_309 : decode cL_asked 309 = .ok (.invokevirtual 128, 3) := by decide +kernel
theorem dL_asked_312 : decode cL_asked 312 = .ok (.ireturn, 1) := by decide +kernel
theorem dL_asked_313 : decode cL_asked 313 = .ok (.aload_n 0, 1) := by decide +kernel
theorem dL_asked_314 : decode cL_asked 314 = .ok (.aload_n 2, 1) := by decide +kernel
theorem dL_asked_315 : decode cL_asked 315 = .ok (.iconst 0, 1) := by decide +kernel
theorem dL_asked_316 : decode cL_asked 316 = .ok (.iaload, 1) := by decide +kernel
theorem dL_asked_317 : decode cL_asked 317 = .ok (.invokevirtual 131, 3) := by decide +kernel
theorem dL_asked_320 : decode cL_asked 320 = .ok (.ireturn, 1) := by decide +kernel
theorem dL_asked_321 : decode cL_asked 321 = .ok (.aload_n 0, 1) := by decide +kernel
theorem dL_asked_322 : decode cL_asked 322 = .ok (.aload_n 2, 1) := by decide +kernel
theorem dL_asked_323 : decode cL_asked 323 = .ok (.iconst 0, 1) := by decide +kernel
theorem dL_asked_324 : decode cL_asked 324 = .ok (.iaload, 1) := by decide +kernel
theorem dL_asked_325 : decode cL_asked 325 = .ok (.invokevirtual 134, 3) := by decide +kernel
theorem dL_asked_328 : decode cL_asked 328 = .ok (.ireturn, 1) := by decide +kernel
theorem dL_hasNone_0 : decode cL_hasNone 0 = .ok (.iload_n 1, 1) := by decide +kernel
theorem dL_hasNone_1 : decode cL_hasNone 1 = .ok (.ifCond .eq 13, 3) := by decide +kernel
theorem dL_hasNone_4 : decode cL_hasNone 4 = .ok (.aload_n 0, 1) := by decide +kernel
theorem dL_hasNone_5 : decode cL_hasNone 5 = .ok (.iconst 0, 1) := by decide +kernel
theorem dL_hasNone_6 : decode cL_hasNone 6 = .ok (.iconst 0, 1) := by decide +kernel
theorem dL_hasNone_7 : decode cL_hasNone 7 = .ok (.invokevirtual 137, 3) := by decide +kernel
theorem dL_hasNone_10 : decode cL_hasNone 10 = .ok (.f2d, 1) := by decide +kernel
theorem dL_hasNone_11 : decode cL_hasNone 11 = .ok (.goto 9, 3) := by decide +kernel
theorem dL_hasNone_14 : decode cL_hasNone 14 = .ok (.aload_n 0, 1) := by decide +kernel
theorem dL_hasNone_15 : decode cL_hasNone 15 = .ok (.iconst 0, 1) := by decide +kernel
theorem dL_hasNone_16 : decode cL_hasNone 16 = .ok (.iconst 0, 1) := by decide +kernel
theorem dL_hasNone_17 : decode cL_hasNone 17 = .ok (.invokevirtual 141, 3) := by decide +kernel
theorem dL_hasNone_20 : decode cL_hasNone 20 = .ok (.dstore_n 2, 1) := by decide +kernel
theorem dL_hasNone_21 : decode cL_hasNone 21 = .ok (.iconst 0, 1) := by decide +kernel
theorem dL_hasNone_22 : decode cL_hasNone 22 = .ok (.ireturn, 1) := by decide +kernel
theorem dL_hasNone_23 : decode cL_hasNone 23 = .ok (.astore_n 2, 1) := by decide +kernel
theorem dL_hasNone_24 : decode cL_hasNone 24 = .ok (.iconst 1, 1) := by decide +kernel
theorem dL_hasNone_25 : decode cL_hasNone 25 = .ok (.ireturn, 1) := by decide +kernel
