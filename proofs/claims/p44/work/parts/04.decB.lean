theorem dL_ask_0 : decode cL_ask 0 = .ok (.iload_n 1, 1) := by decide +kernel
theorem dL_ask_1 : decode cL_ask 1 = .ok (.tableswitch 448 67 119 #[280, 448, 448, 448, 448, 448, 448, 448, 227, 237, 410, 448, 436, 448, 448, 448, 340, 448, 448, 448, 268, 448, 448, 448, 448, 448, 448, 448, 448, 448, 448, 448, 448, 395, 448, 448, 448, 331, 448, 448, 448, 292, 352, 448, 421, 316, 448, 380, 304, 448, 448, 448, 253], 227) := by decide +kernel
theorem dL_ask_228 : decode cL_ask 228 = .ok (.aload_n 0, 1) := by decide +kernel
theorem dL_ask_229 : decode cL_ask 229 = .ok (.aload_n 2, 1) := by decide +kernel
theorem dL_ask_230 : decode cL_ask 230 = .ok (.iconst 0, 1) := by decide +kernel
theorem dL_ask_231 : decode cL_ask 231 = .ok (.iaload, 1) := by decide +kernel
theorem dL_ask_232 : decode cL_ask 232 = .ok (.i2c, 1) := by decide +kernel
theorem dL_ask_233 : decode cL_ask 233 = .ok (.invokevirtual 7, 3) := by decide +kernel
theorem dL_ask_236 : decode cL_ask 236 = .ok (.i2l, 1) := by decide +kernel
theorem dL_ask_237 : decode cL_ask 237 = .ok (.lreturn, 1) := by decide +kernel
theorem dL_ask_238 : decode cL_ask 238 = .ok (.aload_n 0, 1) := by decide +kernel
theorem dL_ask_239 : decode cL_ask 239 = .ok (.aload_n 2, 1) := by decide +kernel
theorem dL_ask_240 : decode cL_ask 240 = .ok (.iconst 0, 1) := by decide +kernel
theorem dL_ask_241 : decode cL_ask 241 = .ok (.iaload, 1) := by decide +kernel
theorem dL_ask_242 : decode cL_ask 242 = .ok (.aload_n 2, 1) := by decide +kernel
theorem dL_ask_243 : decode cL_ask 243 = .ok (.iconst 1, 1) := by decide +kernel
theorem dL_ask_244 : decode cL_ask 244 = .ok (.iaload, 1) := by decide +kernel
theorem dL_ask_245 : decode cL_ask 245 = .ok (.i2c, 1) := by decide +kernel
theorem dL_ask_246 : decode cL_ask 246 = .ok (.aload_n 2, 1) := by decide +kernel
theorem dL_ask_247 : decode cL_ask 247 = .ok (.iconst 2, 1) := by decide +kernel
theorem dL_ask_248 : decode cL_ask 248 = .ok (.iaload, 1) := by decide +kernel
theorem dL_ask_249 : decode cL_ask 249 = .ok (.invokevirtual 13, 3) := by decide +kernel
theorem dL_ask_252 : decode cL_ask 252 = .ok (.i2l, 1) := by decide +kernel
theorem dL_ask_253 : decode cL_ask 253 = .ok (.lreturn, 1) := by decide +kernel
theorem dL_ask_254 : decode cL_ask 254 = .ok (.aload_n 0, 1) := by decide +kernel
theorem dL_ask_255 : decode cL_ask 255 = .ok (.aload_n 2, 1) := by decide +kernel
theorem dL_ask_256 : decode cL_ask 256 = .ok (.iconst 0, 1) := by decide +kernel
theorem dL_ask_257 : decode cL_ask 257 = .ok (.iaload, 1) := by decide +kernel
theorem dL_ask_258 : decode cL_ask 258 = .ok (.aload_n 2, 1) := by decide +kernel
theorem dL_ask_259 : decode cL_ask 259 = .ok (.iconst 1, 1) := by decide +kernel
theorem dL_ask_260 : decode cL_ask 260 = .ok (.iaload, 1) := by decide +kernel
theorem dL_ask_261 : decode cL_ask 261 = .ok (.aload_n 2, 1) := by decide +kernel
theorem dL_ask_262 : decode cL_ask 262 = .ok (.iconst 2, 1) := by decide +kernel
theorem dL_ask_263 : decode cL_ask 263 = .ok (.iaload, 1) := by decide +kernel
theorem dL_ask_264 : decode cL_ask 264 = .ok (.invokevirtual 17, 3) := by decide +kernel
theorem dL_ask_267 : decode cL_ask 267 = .ok (.i2l, 1) := by decide +kernel
theorem dL_ask_268 : decode cL_ask 268 = .ok (.lreturn, 1) := by decide +kernel
theorem dL_ask_269 : decode cL_ask 269 = .ok (.aload_n 0, 1) := by decide +kernel
theorem dL_ask_270 : decode cL_ask 270 = .ok (.aload_n 2, 1) := by decide +kernel
theorem dL_ask_271 : decode cL_ask 271 = .ok (.iconst 0, 1) := by decide +kernel
theorem dL_ask_272 : decode cL_ask 272 = .ok (.iaload, 1) := by decide +kernel
theorem dL_ask_273 : decode cL_ask 273 = .ok (.aload_n 2, 1) := by decide +kernel
theorem dL_ask_274 : decode cL_ask 274 = .ok (.iconst 1, 1) := by decide +kernel
theorem dL_ask_275 : decode cL_ask 275 = .ok (.iaload, 1) := by decide +kernel
theorem dL_ask_276 : decode cL_ask 276 = .ok (.invokevirtual 21, 3) := by decide +kernel
theorem dL_ask_279 : decode cL_ask 279 = .ok (.i2l, 1) := by decide +kernel
theorem dL_ask_280 : decode cL_ask 280 = .ok (.lreturn, 1) := by decide +kernel
theorem dL_ask_281 : decode cL_ask 281 = .ok (.aload_n 0, 1) := by decide +kernel
theorem dL_ask_282 : decode cL_ask 282 = .ok (.aload_n 2, 1) := by decide +kernel
theorem dL_ask_283 : decode cL_ask 283 = .ok (.iconst 0, 1) := by decide +kernel
theorem dL_ask_284 : decode cL_ask 284 = .ok (.iaload, 1) := by decide +kernel
theorem dL_ask_285 : decode cL_ask 285 = .ok (.aload_n 2, 1) := by decide +kernel
theorem dL_ask_286 : decode cL_ask 286 = .ok (.iconst 1, 1) := by decide +kernel
theorem dL_ask_287 : decode cL_ask 287 = .ok (.iaload, 1) := by decide +kernel
theorem dL_ask_288 : decode cL_ask 288 = .ok (.invokevirtual 25, 3) := by decide +kernel
theorem dL_ask_291 : decode cL_ask 291 = .ok (.i2l, 1) := by decide +kernel
theorem dL_ask_292 : decode cL_ask 292 = .ok (.lreturn, 1) := by decide +kernel
theorem dL_ask_293 : decode cL_ask 293 = .ok (.aload_n 0, 1) := by decide +kernel
theorem dL_ask_294 : decode cL_ask 294 = .ok (.aload_n 2, 1) := by decide +kernel
theorem dL_ask_295 : decode cL_ask 295 = .ok (.iconst 0, 1) := by decide +kernel
theorem dL_ask_296 : decode cL_ask 296 = .ok (.iaload, 1) := by decide +kernel
theorem dL_ask_297 : decode cL_ask 297 = .ok (.aload_n 2, 1) := by decide +kernel
theorem dL_ask_298 : decode cL_ask 298 = .ok (.iconst 1, 1) := by decide +kernel
theorem dL_ask_299 : decode cL_ask 299 = .ok (.iaload, 1) := by decide +kernel
theorem dL_ask_300 : decode cL_ask 300 = .ok (.invokevirtual 28, 3) := by decide +kernel
theorem dL_ask_303 : decode cL_ask 303 = .ok (.i2l, 1) := by decide +kernel
theorem dL_ask_304 : decode cL_ask 304 = .ok (.lreturn, 1) := by decide +kernel
theorem dL_ask_305 : decode cL_ask 305 = .ok (.aload_n 0, 1) := by decide +kernel
theorem dL_ask_306 : decode cL_ask 306 = .ok (.aload_n 2, 1) := by decide +kernel
theorem dL_ask_307 : decode cL_ask 307 = .ok (.iconst 0, 1) := by decide +kernel
theorem dL_ask_308 : decode cL_ask 308 = .ok (.iaload, 1) := by decide +kernel
theorem dL_ask_309 : decode cL_ask 309 = .ok (.aload_n 2, 1) := by decide +kernel
theorem dL_ask_310 : decode cL_ask 310 = .ok (.iconst 1, 1) := by decide +kernel
theorem dL_ask_311 : decode cL_ask 311 = .ok (.iaload, 1) := by decide +kernel
theorem dL_ask_312 : decode cL_ask 312 = .ok (.invokevirtual 31, 3) := by decide +kernel
theorem dL_ask_315 : decode cL_ask 315 = .ok (.i2l, 1) := by decide +kernel
theorem dL_ask_316 : decode cL_ask 316 = .ok (.lreturn, 1) := by decide +kernel
theorem dL_ask_317 : decode cL_ask 317 = .ok (.aload_n 0, 1) := by decide +kernel
theorem dL_ask_318 : decode cL_ask 318 = .ok (.aload_n 2, 1) := by decide +kernel
theorem dL_ask_319 : decode cL_ask 319 = .ok (.iconst 0, 1) := by decide +kernel
theorem dL_ask_320 : decode cL_ask 320 = .ok (.iaload, 1) := by decide +kernel
theorem dL_ask_321 : decode cL_ask 321 = .ok (.aload_n 2, 1) := by decide +kernel
theorem dL_ask_322 : decode cL_ask 322 = .ok (.iconst 1, 1) := by decide +kernel
theorem dL_ask_323 : decode cL_ask 323 = .ok (.iaload, 1) := by decide +kernel
theorem dL_ask_324 : decode cL_ask 324 = .ok (.aload_n 2, 1) := by decide +kernel
theorem dL_ask_325 : decode cL_ask 325 = .ok (.iconst 2, 1) := by decide +kernel
theorem dL_ask_326 : decode cL_ask 326 = .ok (.iaload, 1) := by decide +kernel
theorem dL_ask_327 : decode cL_ask 327 = .ok (.invokevirtual 34, 3) := by decide +kernel
theorem dL_ask_330 : decode cL_ask 330 = .ok (.i2l, 1) := by decide +kernel
theorem dL_ask_331 : decode cL_ask 331 = .ok (.lreturn, 1) := by decide +kernel
theorem dL_ask_332 : decode cL_ask 332 = .ok (.aload_n 0, 1) := by decide +kernel
theorem dL_ask_333 : decode cL_ask 333 = .ok (.aload_n 2, 1) := by decide +kernel
theorem dL_ask_334 : decode cL_ask 334 = .ok (.iconst 0, 1) := by decide +kernel
theorem dL_ask_335 : decode cL_ask 335 = .ok (.iaload, 1) := by decide +kernel
theorem dL_ask_336 : decode cL_ask 336 = .ok (.invokevirtual 37, 3) := by decide +kernel
theorem dL_ask_339 : decode cL_ask 339 = .ok (.i2l, 1) := by decide +kernel
theorem dL_ask_340 : decode cL_ask 340 = .ok (.lreturn, 1) := by decide +kernel
theorem dL_ask_341 : decode cL_ask 341 = .ok (.aload_n 0, 1) := by decide +kernel
theorem dL_ask_342 : decode cL_ask 342 = .ok (.aload_n 2, 1) := by decide +kernel
theorem dL_ask_343 : decode cL_ask 343 = .ok (.iconst 0, 1) := by decide +kernel
theorem dL_ask_344 : decode cL_ask 344 = .ok (.iaload, 1) := by decide +kernel
theorem dL_ask_345 : decode cL_ask 345 = .ok (.aload_n 2, 1) := by decide +kernel
theorem dL_ask_346 : decode cL_ask 346 = .ok (.iconst 1, 1) := by decide +kernel
theorem dL_ask_347 : decode cL_ask 347 = .ok (.iaload, 1) := by decide +kernel
theorem dL_ask_348 : decode cL_ask 348 = .ok (.invokevirtual 41, 3) := by decide +kernel
theorem dL_ask_351 : decode cL_ask 351 = .ok (.i2l, 1) := by decide +kernel
theorem dL_ask_352 : decode cL_ask 352 = .ok (.lreturn, 1) := by decide +kernel
theorem dL_ask_353 : decode cL_ask 353 = .ok (.aload_n 0, 1) := by decide +kernel
theorem dL_ask_354 : decode cL_ask 354 = .ok (.aload_n 2, 1) := by decide +kernel
theorem dL_ask_355 : decode cL_ask 355 = .ok (.iconst 0, 1) := by decide +kernel
theorem dL_ask_356 : decode cL_ask 356 = .ok (.iaload, 1) := by decide +kernel
theorem dL_ask_357 : decode cL_ask 357 = .ok (.aload_n 2, 1) := by decide +kernel
theorem dL_ask_358 : decode cL_ask 358 = .ok (.iconst 1, 1) := by decide +kernel
theorem dL_ask_359 : decode cL_ask 359 = .ok (.iaload, 1) := by decide +kernel
theorem dL_ask_360 : decode cL_ask 360 = .ok (.iconst 1, 1) := by decide +kernel
theorem dL_ask_361 : decode cL_ask 361 = .ok (.if_icmp .ne 7, 3) := by decide +kernel
theorem dL_ask_364 : decode cL_ask 364 = .ok (.iconst 1, 1) := by decide +kernel
theorem dL_ask_365 : decode cL_ask 365 = .ok (.goto 4, 3) := by decide +kernel
theorem dL_ask_368 : decode cL_ask 368 = .ok (.iconst 0, 1) := by decide +kernel
theorem dL_ask_369 : decode cL_ask 369 = .ok (.invokevirtual 44, 3) := by decide +kernel
theorem dL_ask_372 : decode cL_ask 372 = .ok (.ifCond .eq 7, 3) := by decide +kernel
theorem dL_ask_375 : decode cL_ask 375 = .ok (.lconst 1, 1) := by decide +kernel
theorem dL_ask_376 : decode cL_ask 376 = .ok (.goto 4, 3) := by decide +kernel
theorem dL_ask_379 : decode cL_ask 379 = .ok (.lconst 0, 1) := by decide +kernel
theorem dL_ask_380 : decode cL_ask 380 = .ok (.lreturn, 1) := by decide +kernel
theorem dL_ask_381 : decode cL_ask 381 = .ok (.aload_n 0, 1) := by decide +kernel
theorem dL_ask_382 : decode cL_ask 382 = .ok (.aload_n 2, 1) := by decide +kernel
theorem dL_ask_383 : decode cL_ask 383 = .ok (.iconst 0, 1) := by decide +kernel
theorem dL_ask_384 : decode cL_ask 384 = .ok (.iaload, 1) := by decide +kernel
theorem dL_ask_385 : decode cL_ask 385 = .ok (.aload_n 2, 1) := by decide +kernel
theorem dL_ask_386 : decode cL_ask 386 = .ok (.iconst 1, 1) := by decide +kernel
theorem dL_ask_387 : decode cL_ask 387 = .ok (.iaload, 1) := by decide +kernel
theorem dL_ask_388 : decode cL_ask 388 = .ok (.aload_n 2, 1) := by decide +kernel
theorem dL_ask_389 : decode cL_ask 389 = .ok (.iconst 2, 1) := by decide +kernel
theorem dL_ask_390 : decode cL_ask 390 = .ok (.iaload, 1) := by decide +kernel
theorem dL_ask_391 : decode cL_ask 391 = .ok (.invokevirtual 48, 3) := by decide +kernel
theorem dL_ask_394 : decode cL_ask 394 = .ok (.i2l, 1) := by decide +kernel
theorem dL_ask_395 : decode cL_ask 395 = .ok (.lreturn, 1) := by decide +kernel
theorem dL_ask_396 : decode cL_ask 396 = .ok (.aload_n 0, 1) := by decide +kernel
theorem dL_ask_397 : decode cL_ask 397 = .ok (.aload_n 2, 1) := by decide +kernel
theorem dL_ask_398 : decode cL_ask 398 = .ok (.iconst 0, 1) := by decide +kernel
theorem dL_ask_399 : decode cL_ask 399 = .ok (.iaload, 1) := by decide +kernel
theorem dL_ask_400 : decode cL_ask 400 = .ok (.aload_n 2, 1) := by decide +kernel
theorem dL_ask_401 : decode cL_ask 401 = .ok (.iconst 1, 1) := by decide +kernel
theorem dL_ask_402 : decode cL_ask 402 = .ok (.iaload, 1) := by decide +kernel
theorem dL_ask_403 : decode cL_ask 403 = .ok (.i2c, 1) := by decide +kernel
theorem dL_ask_404 : decode cL_ask 404 = .ok (.aload_n 2, 1) := by decide +kernel
theorem dL_ask_405 : decode cL_ask 405 = .ok (.iconst 2, 1) := by decide +kernel
theorem dL_ask_406 : decode cL_ask 406 = .ok (.iaload, 1) := by decide +kernel
theorem dL_ask_407 : decode cL_ask 407 = .ok (.invokevirtual 51, 3) := by decide +kernel
theorem dL_ask_410 : decode cL_ask 410 = .ok (.lreturn, 1) := by decide +kernel
theorem dL_ask_411 : decode cL_ask 411 = .ok (.aload_n 0, 1) := by decide +kernel
theorem dL_ask_412 : decode cL_ask 412 = .ok (.aload_n 2, 1) := by decide +kernel
theorem dL_ask_413 : decode cL_ask 413 = .ok (.iconst 0, 1) := by decide +kernel
theorem dL_ask_414 : decode cL_ask 414 = .ok (.iaload, 1) := by decide +kernel
theorem dL_ask_415 : decode cL_ask 415 = .ok (.aload_n 2, 1) := by decide +kernel
theorem dL_ask_416 : decode cL_ask 416 = .ok (.iconst 1, 1) := by decide +kernel
theorem dL_ask_417 : decode cL_ask 417 = .ok (.iaload, 1) := by decide +kernel
theorem dL_ask_418 : decode cL_ask 418 = .ok (.invokevirtual 55, 3) := by decide +kernel
theorem dL_ask_421 : decode cL_ask 421 = .ok (.lreturn, 1) := by decide +kernel
theorem dL_ask_422 : decode cL_ask 422 = .ok (.aload_n 0, 1) := by decide +kernel
theorem dL_ask_423 : decode cL_ask 423 = .ok (.aload_n 2, 1) := by decide +kernel
theorem dL_ask_424 : decode cL_ask 424 = .ok (.iconst 0, 1) := by decide +kernel
theorem dL_ask_425 : decode cL_ask 425 = .ok (.iaload, 1) := by decide +kernel
theorem dL_ask_426 : decode cL_ask 426 = .ok (.aload_n 2, 1) := by decide +kernel
theorem dL_ask_427 : decode cL_ask 427 = .ok (.iconst 1, 1) := by decide +kernel
theorem dL_ask_428 : decode cL_ask 428 = .ok (.iaload, 1) := by decide +kernel
theorem dL_ask_429 : decode cL_ask 429 = .ok (.aload_n 2, 1) := by decide +kernel
theorem dL_ask_430 : decode cL_ask 430 = .ok (.iconst 2, 1) := by decide +kernel
theorem dL_ask_431 : decode cL_ask 431 = .ok (.iaload, 1) := by decide +kernel
theorem dL_ask_432 : decode cL_ask 432 = .ok (.i2c, 1) := by decide +kernel
theorem dL_ask_433 : decode cL_ask 433 = .ok (.invokevirtual 59, 3) := by decide +kernel
theorem dL_ask_436 : decode cL_ask 436 = .ok (.lreturn, 1) := by decide +kernel
theorem dL_ask_437 : decode cL_ask 437 = .ok (.aload_n 0, 1) := by decide +kernel
theorem dL_ask_438 : decode cL_ask 438 = .ok (.aload_n 2, 1) := by decide +kernel
theorem dL_ask_439 : decode cL_ask 439 = .ok (.iconst 0, 1) := by decide +kernel
theorem dL_ask_440 : decode cL_ask 440 = .ok (.iaload, 1) := by decide +kernel
theorem dL_ask_441 : decode cL_ask 441 = .ok (.aload_n 2, 1) := by decide +kernel
theorem dL_ask_442 : decode cL_ask 442 = .ok (.iconst 1, 1) := by decide +kernel
theorem dL_ask_443 : decode cL_ask 443 = .ok (.iaload, 1) := by decide +kernel
theorem dL_ask_444 : decode cL_ask 444 = .ok (.i2c, 1) := by decide +kernel
theorem dL_ask_445 : decode cL_ask 445 = .ok (.invokevirtual 63, 3) := by decide +kernel
theorem dL_ask_448 : decode cL_ask 448 = .ok (.lreturn, 1) := by decide +kernel
theorem dL_ask_449 : decode cL_ask 449 = .ok (.aload_n 0, 1) := by decide +kernel
theorem dL_ask_450 : decode cL_ask 450 = .ok (.iload_n 1, 1) := by decide +kernel
theorem dL_ask_451 : decode cL_ask 451 = .ok (.aload_n 2, 1) := by decide +kernel
theorem dL_ask_452 : decode cL_ask 452 = .ok (.invokestatic 67, 3) := by decide +kernel
theorem dL_ask_455 : decode cL_ask 455 = .ok (.lreturn, 1) := by decide +kernel
theorem dL_ask_456 : decode cL_ask 456 = .ok (.astore_n 3, 1) := by decide +kernel
theorem dL_ask_457 : decode cL_ask 457 = .ok (.ldc2_w 75, 3) := by decide +kernel
theorem dL_ask_460 : decode cL_ask 460 = .ok (.lreturn, 1) := by decide +kernel
theorem dL_ask_461 : decode cL_ask 461 = .ok (.astore_n 3, 1) := by decide +kernel
theorem dL_ask_462 : decode cL_ask 462 = .ok (.ldc2_w 79, 3) := by decide +kernel
theorem dL_ask_465 : decode cL_ask 465 = .ok (.lreturn, 1) := by decide +kernel
theorem dL_ask_466 : decode cL_ask 466 = .ok (.astore_n 3, 1) := by decide +kernel
theorem dL_ask_467 : decode cL_ask 467 = .ok (.ldc2_w 83, 3) := by decide +kernel
theorem dL_ask_470 : decode cL_ask 470 = .ok (.lreturn, 1) := by decide +kernel
theorem dL_ask_471 : decode cL_ask 471 = .ok (.astore_n 3, 1) := by decide +kernel
theorem dL_ask_472 : decode cL_ask 472 = .ok (.ldc2_w 87, 3) := by decide +kernel
theorem dL_ask_475 : decode cL_ask 475 = .ok (.lreturn, 1) := by decide +kernel
theorem dL_ask_476 : decode cL_ask 476 = .ok (.astore_n 3, 1) := by decide +kernel
theorem dL_ask_477 : decode cL_ask 477 = .ok (.ldc2_w 91, 3) := by decide +kernel
theorem dL_ask_480 : decode cL_ask 480 = .ok (.lreturn, 1) := by decide +kernel
theorem dL_asked_0 : decode cL_asked 0 = .ok (.iload_n 1, 1) := by decide +kernel
theorem dL_asked_1 : decode cL_asked 1 = .ok (.tableswitch 432 70 122 #[323, 432, 262, 432, 432, 432, 432, 432, 432, 432, 432, 432, 432, 432, 235, 432, 432, 432, 432, 377, 432, 432, 432, 432, 432, 432, 432, 432, 386, 344, 432, 227, 288, 280, 432, 395, 250, 432, 432, 432, 417, 432, 432, 403, 432, 432, 271, 335, 296, 432, 353, 365, 304], 227) := by decide +kernel
theorem dL_asked_228 : decode cL_asked 228 = .ok (.aload_n 0, 1) := by decide +kernel
theorem dL_asked_229 : decode cL_asked 229 = .ok (.aload_n 2, 1) := by decide +kernel
theorem dL_asked_230 : decode cL_asked 230 = .ok (.iconst 0, 1) := by decide +kernel
theorem dL_asked_231 : decode cL_asked 231 = .ok (.iaload, 1) := by decide +kernel
theorem dL_asked_232 : decode cL_asked 232 = .ok (.invokevirtual 93, 3) := by decide +kernel
theorem dL_asked_235 : decode cL_asked 235 = .ok (.lreturn, 1) := by decide +kernel
theorem dL_asked_236 : decode cL_asked 236 = .ok (.aload_n 0, 1) := by decide +kernel
theorem dL_asked_237 : decode cL_asked 237 = .ok (.aload_n 2, 1) := by decide +kernel
theorem dL_asked_238 : decode cL_asked 238 = .ok (.iconst 0, 1) := by decide +kernel
theorem dL_asked_239 : decode cL_asked 239 = .ok (.iaload, 1) := by decide +kernel
theorem dL_asked_240 : decode cL_asked 240 = .ok (.aload_n 2, 1) := by decide +kernel
theorem dL_asked_241 : decode cL_asked 241 = .ok (.iconst 1, 1) := by decide +kernel
theorem dL_asked_242 : decode cL_asked 242 = .ok (.iaload, 1) := by decide +kernel
theorem dL_asked_243 : decode cL_asked 243 = .ok (.aload_n 2, 1) := by decide +kernel
theorem dL_asked_244 : decode cL_asked 244 = .ok (.iconst 2, 1) := by decide +kernel
theorem dL_asked_245 : decode cL_asked 245 = .ok (.iaload, 1) := by decide +kernel
theorem dL_asked_246 : decode cL_asked 246 = .ok (.invokevirtual 97, 3) := by decide +kernel
theorem dL_asked_249 : decode cL_asked 249 = .ok (.i2l, 1) := by decide +kernel
theorem dL_asked_250 : decode cL_asked 250 = .ok (.lreturn, 1) := by decide +kernel
theorem dL_asked_251 : decode cL_asked 251 = .ok (.aload_n 0, 1) := by decide +kernel
theorem dL_asked_252 : decode cL_asked 252 = .ok (.aload_n 2, 1) := by decide +kernel
theorem dL_asked_253 : decode cL_asked 253 = .ok (.iconst 0, 1) := by decide +kernel
theorem dL_asked_254 : decode cL_asked 254 = .ok (.iaload, 1) := by decide +kernel
theorem dL_asked_255 : decode cL_asked 255 = .ok (.aload_n 2, 1) := by decide +kernel
theorem dL_asked_256 : decode cL_asked 256 = .ok (.iconst 1, 1) := by decide +kernel
theorem dL_asked_257 : decode cL_asked 257 = .ok (.iaload, 1) := by decide +kernel
theorem dL_asked_258 : decode cL_asked 258 = .ok (.invokevirtual 100, 3) := by decide +kernel
theorem dL_asked_261 : decode cL_asked 261 = .ok (.i2l, 1) := by decide +kernel
theorem dL_asked_262 : decode cL_asked 262 = .ok (.lreturn, 1) := by decide +kernel
theorem dL_asked_263 : decode cL_asked 263 = .ok (.aload_n 0, 1) := by decide +kernel
theorem dL_asked_264 : decode cL_asked 264 = .ok (.aload_n 2, 1) := by decide +kernel
theorem dL_asked_265 : decode cL_asked 265 = .ok (.iconst 0, 1) := by decide +kernel
theorem dL_asked_266 : decode cL_asked 266 = .ok (.iaload, 1) := by decide +kernel
theorem dL_asked_267 : decode cL_asked 267 = .ok (.invokevirtual 103, 3) := by decide +kernel
theorem dL_asked_270 : decode cL_asked 270 = .ok (.i2l, 1) := by decide +kernel
theorem dL_asked_271 : decode cL_asked 271 = .ok (.lreturn, 1) := by decide +kernel
theorem dL_asked_272 : decode cL_asked 272 = .ok (.aload_n 0, 1) := by decide +kernel
theorem dL_asked_273 : decode cL_asked 273 = .ok (.aload_n 2, 1) := by decide +kernel
theorem dL_asked_274 : decode cL_asked 274 = .ok (.iconst 0, 1) := by decide +kernel
theorem dL_asked_275 : decode cL_asked 275 = .ok (.iaload, 1) := by decide +kernel
theorem dL_asked_276 : decode cL_asked 276 = .ok (.invokevirtual 106, 3) := by decide +kernel
theorem dL_asked_279 : decode cL_asked 279 = .ok (.i2l, 1) := by decide +kernel
theorem dL_asked_280 : decode cL_asked 280 = .ok (.lreturn, 1) := by decide +kernel
theorem dL_asked_281 : decode cL_asked 281 = .ok (.aload_n 0, 1) := by decide +kernel
theorem dL_asked_282 : decode cL_asked 282 = .ok (.aload_n 2, 1) := by decide +kernel
theorem dL_asked_283 : decode cL_asked 283 = .ok (.iconst 0, 1) := by decide +kernel
theorem dL_asked_284 : decode cL_asked 284 = .ok (.iaload, 1) := by decide +kernel
theorem dL_asked_285 : decode cL_asked 285 = .ok (.invokevirtual 109, 3) := by decide +kernel
theorem dL_asked_288 : decode cL_asked 288 = .ok (.lreturn, 1) := by decide +kernel
theorem dL_asked_289 : decode cL_asked 289 = .ok (.aload_n 0, 1) := by decide +kernel
theorem dL_asked_290 : decode cL_asked 290 = .ok (.aload_n 2, 1) := by decide +kernel
theorem dL_asked_291 : decode cL_asked 291 = .ok (.iconst 0, 1) := by decide +kernel
theorem dL_asked_292 : decode cL_asked 292 = .ok (.iaload, 1) := by decide +kernel
theorem dL_asked_293 : decode cL_asked 293 = .ok (.invokevirtual 112, 3) := by decide +kernel
theorem dL_asked_296 : decode cL_asked 296 = .ok (.lreturn, 1) := by decide +kernel
theorem dL_asked_297 : decode cL_asked 297 = .ok (.aload_n 0, 1) := by decide +kernel
theorem dL_asked_298 : decode cL_asked 298 = .ok (.aload_n 2, 1) := by decide +kernel
theorem dL_asked_299 : decode cL_asked 299 = .ok (.iconst 0, 1) := by decide +kernel
theorem dL_asked_300 : decode cL_asked 300 = .ok (.iaload, 1) := by decide +kernel
theorem dL_asked_301 : decode cL_asked 301 = .ok (.invokevirtual 115, 3) := by decide +kernel
theorem dL_asked_304 : decode cL_asked 304 = .ok (.lreturn, 1) := by decide +kernel
theorem dL_asked_305 : decode cL_asked 305 = .ok (.aload_n 0, 1) := by decide +kernel
theorem dL_asked_306 : decode cL_asked 306 = .ok (.aload_n 2, 1) := by decide +kernel
theorem dL_asked_307 : decode cL_asked 307 = .ok (.iconst 0, 1) := by decide +kernel
theorem dL_asked_308 : decode cL_asked 308 = .ok (.iaload, 1) := by decide +kernel
theorem dL_asked_309 : decode cL_asked 309 = .ok (.aload_n 2, 1) := by decide +kernel
theorem dL_asked_310 : decode cL_asked 310 = .ok (.iconst 1, 1) := by decide +kernel
theorem dL_asked_311 : decode cL_asked 311 = .ok (.iaload, 1) := by decide +kernel
theorem dL_asked_312 : decode cL_asked 312 = .ok (.invokevirtual 118, 3) := by decide +kernel
theorem dL_asked_315 : decode cL_asked 315 = .ok (.ifCond .eq 7, 3) := by decide +kernel
theorem dL_asked_318 : decode cL_asked 318 = .ok (.lconst 1, 1) := by decide +kernel
theorem dL_asked_319 : decode cL_asked 319 = .ok (.goto 4, 3) := by decide +kernel
theorem dL_asked_322 : decode cL_asked 322 = .ok (.lconst 0, 1) := by decide +kernel
theorem dL_asked_323 : decode cL_asked 323 = .ok (.lreturn, 1) := by decide +kernel
theorem dL_asked_324 : decode cL_asked 324 = .ok (.aload_n 0, 1) := by decide +kernel
theorem dL_asked_325 : decode cL_asked 325 = .ok (.aload_n 2, 1) := by decide +kernel
theorem dL_asked_326 : decode cL_asked 326 = .ok (.iconst 0, 1) := by decide +kernel
theorem dL_asked_327 : decode cL_asked 327 = .ok (.iaload, 1) := by decide +kernel
theorem dL_asked_328 : decode cL_asked 328 = .ok (.aload_n 2, 1) := by decide +kernel
theorem dL_asked_329 : decode cL_asked 329 = .ok (.iconst 1, 1) := by decide +kernel
theorem dL_asked_330 : decode cL_asked 330 = .ok (.iaload, 1) := by decide +kernel
theorem dL_asked_331 : decode cL_asked 331 = .ok (.invokevirtual 122, 3) := by decide +kernel
theorem dL_asked_334 : decode cL_asked 334 = .ok (.i2l, 1) := by decide +kernel
theorem dL_asked_335 : decode cL_asked 335 = .ok (.lreturn, 1) := by decide +kernel
theorem dL_asked_336 : decode cL_asked 336 = .ok (.aload_n 0, 1) := by decide +kernel
theorem dL_asked_337 : decode cL_asked 337 = .ok (.aload_n 2, 1) := by decide +kernel
theorem dL_asked_338 : decode cL_asked 338 = .ok (.iconst 0, 1) := by decide +kernel
theorem dL_asked_339 : decode cL_asked 339 = .ok (.iaload, 1) := by decide +kernel
theorem dL_asked_340 : decode cL_asked 340 = .ok (.invokevirtual 125, 3) := by decide +kernel
theorem dL_asked_343 : decode cL_asked 343 = .ok (.i2l, 1) := by decide +kernel
theorem dL_asked_344 : decode cL_asked 344 = .ok (.lreturn, 1) := by decide +kernel
theorem dL_asked_345 : decode cL_asked 345 = .ok (.aload_n 0, 1) := by decide +kernel
theorem dL_asked_346 : decode cL_asked 346 = .ok (.aload_n 2, 1) := by decide +kernel
theorem dL_asked_347 : decode cL_asked 347 = .ok (.iconst 0, 1) := by decide +kernel
theorem dL_asked_348 : decode cL_asked 348 = .ok (.iaload, 1) := by decide +kernel
theorem dL_asked_349 : decode cL_asked 349 = .ok (.invokevirtual 128, 3) := by decide +kernel
theorem dL_asked_352 : decode cL_asked 352 = .ok (.i2l, 1) := by decide +kernel
theorem dL_asked_353 : decode cL_asked 353 = .ok (.lreturn, 1) := by decide +kernel
theorem dL_asked_354 : decode cL_asked 354 = .ok (.aload_n 0, 1) := by decide +kernel
theorem dL_asked_355 : decode cL_asked 355 = .ok (.aload_n 2, 1) := by decide +kernel
theorem dL_asked_356 : decode cL_asked 356 = .ok (.iconst 0, 1) := by decide +kernel
theorem dL_asked_357 : decode cL_asked 357 = .ok (.iaload, 1) := by decide +kernel
theorem dL_asked_358 : decode cL_asked 358 = .ok (.aload_n 2, 1) := by decide +kernel
theorem dL_asked_359 : decode cL_asked 359 = .ok (.iconst 1, 1) := by decide +kernel
theorem dL_asked_360 : decode cL_asked 360 = .ok (.iaload, 1) := by decide +kernel
theorem dL_asked_361 : decode cL_asked 361 = .ok (.invokevirtual 131, 3) := by decide +kernel
theorem dL_asked_364 : decode cL_asked 364 = .ok (.i2l, 1) := by decide +kernel
theorem dL_asked_365 : decode cL_asked 365 = .ok (.lreturn, 1) := by decide +kernel
theorem dL_asked_366 : decode cL_asked 366 = .ok (.aload_n 0, 1) := by decide +kernel
theorem dL_asked_367 : decode cL_asked 367 = .ok (.aload_n 2, 1) := by decide +kernel
theorem dL_asked_368 : decode cL_asked 368 = .ok (.iconst 0, 1) := by decide +kernel
theorem dL_asked_369 : decode cL_asked 369 = .ok (.iaload, 1) := by decide +kernel
theorem dL_asked_370 : decode cL_asked 370 = .ok (.aload_n 2, 1) := by decide +kernel
theorem dL_asked_371 : decode cL_asked 371 = .ok (.iconst 1, 1) := by decide +kernel
theorem dL_asked_372 : decode cL_asked 372 = .ok (.iaload, 1) := by decide +kernel
theorem dL_asked_373 : decode cL_asked 373 = .ok (.invokevirtual 134, 3) := by decide +kernel
theorem dL_asked_376 : decode cL_asked 376 = .ok (.i2l, 1) := by decide +kernel
theorem dL_asked_377 : decode cL_asked 377 = .ok (.lreturn, 1) := by decide +kernel
theorem dL_asked_378 : decode cL_asked 378 = .ok (.aload_n 0, 1) := by decide +kernel
theorem dL_asked_379 : decode cL_asked 379 = .ok (.aload_n 2, 1) := by decide +kernel
theorem dL_asked_380 : decode cL_asked 380 = .ok (.iconst 0, 1) := by decide +kernel
theorem dL_asked_381 : decode cL_asked 381 = .ok (.iaload, 1) := by decide +kernel
theorem dL_asked_382 : decode cL_asked 382 = .ok (.invokevirtual 137, 3) := by decide +kernel
theorem dL_asked_385 : decode cL_asked 385 = .ok (.i2l, 1) := by decide +kernel
theorem dL_asked_386 : decode cL_asked 386 = .ok (.lreturn, 1) := by decide +kernel
theorem dL_asked_387 : decode cL_asked 387 = .ok (.aload_n 0, 1) := by decide +kernel
theorem dL_asked_388 : decode cL_asked 388 = .ok (.aload_n 2, 1) := by decide +kernel
theorem dL_asked_389 : decode cL_asked 389 = .ok (.iconst 0, 1) := by decide +kernel
theorem dL_asked_390 : decode cL_asked 390 = .ok (.iaload, 1) := by decide +kernel
theorem dL_asked_391 : decode cL_asked 391 = .ok (.invokevirtual 140, 3) := by decide +kernel
theorem dL_asked_394 : decode cL_asked 394 = .ok (.i2l, 1) := by decide +kernel
theorem dL_asked_395 : decode cL_asked 395 = .ok (.lreturn, 1) := by decide +kernel
theorem dL_asked_396 : decode cL_asked 396 = .ok (.aload_n 0, 1) := by decide +kernel
theorem dL_asked_397 : decode cL_asked 397 = .ok (.aload_n 2, 1) := by decide +kernel
theorem dL_asked_398 : decode cL_asked 398 = .ok (.iconst 0, 1) := by decide +kernel
theorem dL_asked_399 : decode cL_asked 399 = .ok (.iaload, 1) := by decide +kernel
theorem dL_asked_400 : decode cL_asked 400 = .ok (.invokevirtual 143, 3) := by decide +kernel
theorem dL_asked_403 : decode cL_asked 403 = .ok (.lreturn, 1) := by decide +kernel
theorem dL_asked_404 : decode cL_asked 404 = .ok (.aload_n 0, 1) := by decide +kernel
theorem dL_asked_405 : decode cL_asked 405 = .ok (.aload_n 2, 1) := by decide +kernel
theorem dL_asked_406 : decode cL_asked 406 = .ok (.iconst 0, 1) := by decide +kernel
theorem dL_asked_407 : decode cL_asked 407 = .ok (.iaload, 1) := by decide +kernel
theorem dL_asked_408 : decode cL_asked 408 = .ok (.aload_n 2, 1) := by decide +kernel
theorem dL_asked_409 : decode cL_asked 409 = .ok (.iconst 1, 1) := by decide +kernel
theorem dL_asked_410 : decode cL_asked 410 = .ok (.iaload, 1) := by decide +kernel
theorem dL_asked_411 : decode cL_asked 411 = .ok (.aload_n 2, 1) := by decide +kernel
theorem dL_asked_412 : decode cL_asked 412 = .ok (.iconst 2, 1) := by decide +kernel
theorem dL_asked_413 : decode cL_asked 413 = .ok (.iaload, 1) := by decide +kernel
theorem dL_asked_414 : decode cL_asked 414 = .ok (.invokevirtual 146, 3) := by decide +kernel
theorem dL_asked_417 : decode cL_asked 417 = .ok (.lreturn, 1) := by decide +kernel
theorem dL_asked_418 : decode cL_asked 418 = .ok (.aload_n 0, 1) := by decide +kernel
theorem dL_asked_419 : decode cL_asked 419 = .ok (.aload_n 2, 1) := by decide +kernel
theorem dL_asked_420 : decode cL_asked 420 = .ok (.iconst 0, 1) := by decide +kernel
theorem dL_asked_421 : decode cL_asked 421 = .ok (.iaload, 1) := by decide +kernel
theorem dL_asked_422 : decode cL_asked 422 = .ok (.aload_n 2, 1) := by decide +kernel
theorem dL_asked_423 : decode cL_asked 423 = .ok (.iconst 1, 1) := by decide +kernel
theorem dL_asked_424 : decode cL_asked 424 = .ok (.iaload, 1) := by decide +kernel
theorem dL_asked_425 : decode cL_asked 425 = .ok (.aload_n 2, 1) := by decide +kernel
theorem dL_asked_426 : decode cL_asked 426 = .ok (.iconst 2, 1) := by decide +kernel
theorem dL_asked_427 : decode cL_asked 427 = .ok (.iaload, 1) := by decide +kernel
theorem dL_asked_428 : decode cL_asked 428 = .ok (.invokevirtual 150, 3) := by decide +kernel
theorem dL_asked_431 : decode cL_asked 431 = .ok (.i2l, 1) := by decide +kernel
theorem dL_asked_432 : decode cL_asked 432 = .ok (.lreturn, 1) := by decide +kernel
theorem dL_asked_433 : decode cL_asked 433 = .ok (.aload_n 0, 1) := by decide +kernel
theorem dL_asked_434 : decode cL_asked 434 = .ok (.aload_n 2, 1) := by decide +kernel
theorem dL_asked_435 : decode cL_asked 435 = .ok (.iconst 0, 1) := by decide +kernel
theorem dL_asked_436 : decode cL_asked 436 = .ok (.iaload, 1) := by decide +kernel
theorem dL_asked_437 : decode cL_asked 437 = .ok (.aload_n 2, 1) := by decide +kernel
theorem dL_asked_438 : decode cL_asked 438 = .ok (.iconst 1, 1) := by decide +kernel
theorem dL_asked_439 : decode cL_asked 439 = .ok (.iaload, 1) := by decide +kernel
theorem dL_asked_440 : decode cL_asked 440 = .ok (.aload_n 2, 1) := by decide +kernel
theorem dL_asked_441 : decode cL_asked 441 = .ok (.iconst 2, 1) := by decide +kernel
theorem dL_asked_442 : decode cL_asked 442 = .ok (.iaload, 1) := by decide +kernel
theorem dL_asked_443 : decode cL_asked 443 = .ok (.aload_n 2, 1) := by decide +kernel
theorem dL_asked_444 : decode cL_asked 444 = .ok (.iconst 3, 1) := by decide +kernel
theorem dL_asked_445 : decode cL_asked 445 = .ok (.iaload, 1) := by decide +kernel
theorem dL_asked_446 : decode cL_asked 446 = .ok (.invokevirtual 153, 3) := by decide +kernel
theorem dL_asked_449 : decode cL_asked 449 = .ok (.i2l, 1) := by decide +kernel
theorem dL_asked_450 : decode cL_asked 450 = .ok (.lreturn, 1) := by decide +kernel
theorem dL_at_0 : decode cL_at 0 = .ok (.iload_n 1, 1) := by decide +kernel
theorem dL_at_1 : decode cL_at 1 = .ok (.aload_n 0, 1) := by decide +kernel
theorem dL_at_2 : decode cL_at 2 = .ok (.arraylength, 1) := by decide +kernel
theorem dL_at_3 : decode cL_at 3 = .ok (.if_icmp .ge 9, 3) := by decide +kernel
theorem dL_at_6 : decode cL_at 6 = .ok (.aload_n 0, 1) := by decide +kernel
theorem dL_at_7 : decode cL_at 7 = .ok (.iload_n 1, 1) := by decide +kernel
theorem dL_at_8 : decode cL_at 8 = .ok (.iaload, 1) := by decide +kernel
theorem dL_at_9 : decode cL_at 9 = .ok (.goto 4, 3) := by decide +kernel
theorem dL_at_12 : decode cL_at 12 = .ok (.iconst 0, 1) := by decide +kernel
theorem dL_at_13 : decode cL_at 13 = .ok (.ireturn, 1) := by decide +kernel
theorem dL_some_0 : decode cL_some 0 = .ok (.iload_n 0, 1) := by decide +kernel
theorem dL_some_1 : decode cL_some 1 = .ok (.iload_n 1, 1) := by decide +kernel
theorem dL_some_2 : decode cL_some 2 = .ok (.irem, 1) := by decide +kernel
theorem dL_some_3 : decode cL_some 3 = .ok (.istore_n 2, 1) := by decide +kernel
theorem dL_some_4 : decode cL_some 4 = .ok (.iload_n 2, 1) := by decide +kernel
theorem dL_some_5 : decode cL_some 5 = .ok (.ifCond .ge 9, 3) := by decide +kernel
theorem dL_some_8 : decode cL_some 8 = .ok (.iload_n 2, 1) := by decide +kernel
theorem dL_some_9 : decode cL_some 9 = .ok (.iload_n 1, 1) := by decide +kernel
theorem dL_some_10 : decode cL_some 10 = .ok (.iadd, 1) := by decide +kernel
theorem dL_some_11 : decode cL_some 11 = .ok (.goto 4, 3) := by decide +kernel
theorem dL_some_14 : decode cL_some 14 = .ok (.iload_n 2, 1) := by decide +kernel
theorem dL_some_15 : decode cL_some 15 = .ok (.ireturn, 1) := by decide +kernel
theorem dL_hasNone_0 : decode cL_hasNone 0 = .ok (.iload_n 1, 1) := by decide +kernel
theorem dL_hasNone_1 : decode cL_hasNone 1 = .ok (.ifCond .eq 11, 3) := by decide +kernel
theorem dL_hasNone_4 : decode cL_hasNone 4 = .ok (.aload_n 0, 1) := by decide +kernel
theorem dL_hasNone_5 : decode cL_hasNone 5 = .ok (.invokevirtual 157, 3) := by decide +kernel
theorem dL_hasNone_8 : decode cL_hasNone 8 = .ok (.f2d, 1) := by decide +kernel
theorem dL_hasNone_9 : decode cL_hasNone 9 = .ok (.goto 7, 3) := by decide +kernel
theorem dL_hasNone_12 : decode cL_hasNone 12 = .ok (.aload_n 0, 1) := by decide +kernel
theorem dL_hasNone_13 : decode cL_hasNone 13 = .ok (.invokevirtual 161, 3) := by decide +kernel
theorem dL_hasNone_16 : decode cL_hasNone 16 = .ok (.dstore_n 2, 1) := by decide +kernel
theorem dL_hasNone_17 : decode cL_hasNone 17 = .ok (.iconst 0, 1) := by decide +kernel
theorem dL_hasNone_18 : decode cL_hasNone 18 = .ok (.ireturn, 1) := by decide +kernel
theorem dL_hasNone_19 : decode cL_hasNone 19 = .ok (.astore_n 2, 1) := by decide +kernel
theorem dL_hasNone_20 : decode cL_hasNone 20 = .ok (.iconst 1, 1) := by decide +kernel
theorem dL_hasNone_21 : decode cL_hasNone 21 = .ok (.ireturn, 1) := by decide +kernel
theorem dL_frosts_0 : decode cL_frosts 0 = .ok (.new 8, 3) := by decide +kernel
theorem dL_frosts_3 : decode cL_frosts 3 = .ok (.dup, 1) := by decide +kernel
theorem dL_frosts_4 : decode cL_frosts 4 = .ok (.invokespecial 167, 3) := by decide +kernel
theorem dL_frosts_7 : decode cL_frosts 7 = .ok (.astore_n 1, 1) := by decide +kernel
theorem dL_frosts_8 : decode cL_frosts 8 = .ok (.iconst 1, 1) := by decide +kernel
theorem dL_frosts_9 : decode cL_frosts 9 = .ok (.aload_n 0, 1) := by decide +kernel
theorem dL_frosts_10 : decode cL_frosts 10 = .ok (.iconst 0, 1) := by decide +kernel
theorem dL_frosts_11 : decode cL_frosts 11 = .ok (.invokestatic 299, 3) := by decide +kernel
theorem dL_frosts_14 : decode cL_frosts 14 = .ok (.bipush 30, 2) := by decide +kernel
theorem dL_frosts_16 : decode cL_frosts 16 = .ok (.invokestatic 303, 3) := by decide +kernel
theorem dL_frosts_19 : decode cL_frosts 19 = .ok (.iadd, 1) := by decide +kernel
theorem dL_frosts_20 : decode cL_frosts 20 = .ok (.istore_n 2, 1) := by decide +kernel
theorem dL_frosts_21 : decode cL_frosts 21 = .ok (.bipush 50, 2) := by decide +kernel
theorem dL_frosts_23 : decode cL_frosts 23 = .ok (.aload_n 0, 1) := by decide +kernel
theorem dL_frosts_24 : decode cL_frosts 24 = .ok (.iconst 1, 1) := by decide +kernel
theorem dL_frosts_25 : decode cL_frosts 25 = .ok (.invokestatic 299, 3) := by decide +kernel
theorem dL_frosts_28 : decode cL_frosts 28 = .ok (.sipush 200, 3) := by decide +kernel
theorem dL_frosts_31 : decode cL_frosts 31 = .ok (.invokestatic 303, 3) := by decide +kernel
theorem dL_frosts_34 : decode cL_frosts 34 = .ok (.iadd, 1) := by decide +kernel
theorem dL_frosts_35 : decode cL_frosts 35 = .ok (.istore_n 3, 1) := by decide +kernel
theorem dL_frosts_36 : decode cL_frosts 36 = .ok (.aload_n 1, 1) := by decide +kernel
theorem dL_frosts_37 : decode cL_frosts 37 = .ok (.bipush 75, 2) := by decide +kernel
theorem dL_frosts_39 : decode cL_frosts 39 = .ok (.iconst 1, 1) := by decide +kernel
theorem dL_frosts_40 : decode cL_frosts 40 = .ok (.newarray .int, 2) := by decide +kernel
theorem dL_frosts_42 : decode cL_frosts 42 = .ok (.dup, 1) := by decide +kernel
theorem dL_frosts_43 : decode cL_frosts 43 = .ok (.iconst 0, 1) := by decide +kernel
theorem dL_frosts_44 : decode cL_frosts 44 = .ok (.bipush 102, 2) := by decide +kernel
theorem dL_frosts_46 : decode cL_frosts 46 = .ok (.iastore, 1) := by decide +kernel
theorem dL_frosts_47 : decode cL_frosts 47 = .ok (.invokestatic 185, 3) := by decide +kernel
theorem dL_frosts_50 : decode cL_frosts 50 = .ok (.lconst 0, 1) := by decide +kernel
theorem dL_frosts_51 : decode cL_frosts 51 = .ok (.lcmp, 1) := by decide +kernel
theorem dL_frosts_52 : decode cL_frosts 52 = .ok (.ifCond .ne 90, 3) := by decide +kernel
theorem dL_frosts_55 : decode cL_frosts 55 = .ok (.aload_n 1, 1) := by decide +kernel
theorem dL_frosts_56 : decode cL_frosts 56 = .ok (.bipush 76, 2) := by decide +kernel
theorem dL_frosts_58 : decode cL_frosts 58 = .ok (.iconst 3, 1) := by decide +kernel
theorem dL_frosts_59 : decode cL_frosts 59 = .ok (.newarray .int, 2) := by decide +kernel
theorem dL_frosts_61 : decode cL_frosts 61 = .ok (.dup, 1) := by decide +kernel
theorem dL_frosts_62 : decode cL_frosts 62 = .ok (.iconst 0, 1) := by decide +kernel
theorem dL_frosts_63 : decode cL_frosts 63 = .ok (.iconst 0, 1) := by decide +kernel
theorem dL_frosts_64 : decode cL_frosts 64 = .ok (.iastore, 1) := by decide +kernel
theorem dL_frosts_65 : decode cL_frosts 65 = .ok (.dup, 1) := by decide +kernel
theorem dL_frosts_66 : decode cL_frosts 66 = .ok (.iconst 1, 1) := by decide +kernel
theorem dL_frosts_67 : decode cL_frosts 67 = .ok (.bipush 108, 2) := by decide +kernel
theorem dL_frosts_69 : decode cL_frosts 69 = .ok (.iastore, 1) := by decide +kernel
theorem dL_frosts_70 : decode cL_frosts 70 = .ok (.dup, 1) := by decide +kernel
theorem dL_frosts_71 : decode cL_frosts 71 = .ok (.iconst 2, 1) := by decide +kernel
theorem dL_frosts_72 : decode cL_frosts 72 = .ok (.iload_n 3, 1) := by decide +kernel
theorem dL_frosts_73 : decode cL_frosts 73 = .ok (.iastore, 1) := by decide +kernel
theorem dL_frosts_74 : decode cL_frosts 74 = .ok (.invokestatic 185, 3) := by decide +kernel
theorem dL_frosts_77 : decode cL_frosts 77 = .ok (.lconst 1, 1) := by decide +kernel
theorem dL_frosts_78 : decode cL_frosts 78 = .ok (.lcmp, 1) := by decide +kernel
theorem dL_frosts_79 : decode cL_frosts 79 = .ok (.ifCond .ne 63, 3) := by decide +kernel
theorem dL_frosts_82 : decode cL_frosts 82 = .ok (.aload_n 1, 1) := by decide +kernel
theorem dL_frosts_83 : decode cL_frosts 83 = .ok (.bipush 76, 2) := by decide +kernel
theorem dL_frosts_85 : decode cL_frosts 85 = .ok (.iconst 3, 1) := by decide +kernel
theorem dL_frosts_86 : decode cL_frosts 86 = .ok (.newarray .int, 2) := by decide +kernel
theorem dL_frosts_88 : decode cL_frosts 88 = .ok (.dup, 1) := by decide +kernel
theorem dL_frosts_89 : decode cL_frosts 89 = .ok (.iconst 0, 1) := by decide +kernel
theorem dL_frosts_90 : decode cL_frosts 90 = .ok (.iconst 0, 1) := by decide +kernel
theorem dL_frosts_91 : decode cL_frosts 91 = .ok (.iastore, 1) := by decide +kernel
theorem dL_frosts_92 : decode cL_frosts 92 = .ok (.dup, 1) := by decide +kernel
theorem dL_frosts_93 : decode cL_frosts 93 = .ok (.iconst 1, 1) := by decide +kernel
theorem dL_frosts_94 : decode cL_frosts 94 = .ok (.bipush 108, 2) := by decide +kernel
theorem dL_frosts_96 : decode cL_frosts 96 = .ok (.iastore, 1) := by decide +kernel
theorem dL_frosts_97 : decode cL_frosts 97 = .ok (.dup, 1) := by decide +kernel
theorem dL_frosts_98 : decode cL_frosts 98 = .ok (.iconst 2, 1) := by decide +kernel
theorem dL_frosts_99 : decode cL_frosts 99 = .ok (.bipush 50, 2) := by decide +kernel
theorem dL_frosts_101 : decode cL_frosts 101 = .ok (.iastore, 1) := by decide +kernel
theorem dL_frosts_102 : decode cL_frosts 102 = .ok (.invokestatic 185, 3) := by decide +kernel
theorem dL_frosts_105 : decode cL_frosts 105 = .ok (.ldc2_w 225, 3) := by decide +kernel
theorem dL_frosts_108 : decode cL_frosts 108 = .ok (.lcmp, 1) := by decide +kernel
theorem dL_frosts_109 : decode cL_frosts 109 = .ok (.ifCond .ne 33, 3) := by decide +kernel
theorem dL_frosts_112 : decode cL_frosts 112 = .ok (.aload_n 1, 1) := by decide +kernel
theorem dL_frosts_113 : decode cL_frosts 113 = .ok (.bipush 84, 2) := by decide +kernel
theorem dL_frosts_115 : decode cL_frosts 115 = .ok (.iconst 3, 1) := by decide +kernel
theorem dL_frosts_116 : decode cL_frosts 116 = .ok (.newarray .int, 2) := by decide +kernel
theorem dL_frosts_118 : decode cL_frosts 118 = .ok (.dup, 1) := by decide +kernel
theorem dL_frosts_119 : decode cL_frosts 119 = .ok (.iconst 0, 1) := by decide +kernel
theorem dL_frosts_120 : decode cL_frosts 120 = .ok (.iload_n 2, 1) := by decide +kernel
theorem dL_frosts_121 : decode cL_frosts 121 = .ok (.ineg, 1) := by decide +kernel
theorem dL_frosts_122 : decode cL_frosts 122 = .ok (.iastore, 1) := by decide +kernel
theorem dL_frosts_123 : decode cL_frosts 123 = .ok (.dup, 1) := by decide +kernel
theorem dL_frosts_124 : decode cL_frosts 124 = .ok (.iconst 1, 1) := by decide +kernel
theorem dL_frosts_125 : decode cL_frosts 125 = .ok (.bipush 40, 2) := by decide +kernel
theorem dL_frosts_127 : decode cL_frosts 127 = .ok (.iastore, 1) := by decide +kernel
theorem dL_frosts_128 : decode cL_frosts 128 = .ok (.dup, 1) := by decide +kernel
theorem dL_frosts_129 : decode cL_frosts 129 = .ok (.iconst 2, 1) := by decide +kernel
theorem dL_frosts_130 : decode cL_frosts 130 = .ok (.iconst 0, 1) := by decide +kernel
theorem dL_frosts_131 : decode cL_frosts 131 = .ok (.iastore, 1) := by decide +kernel
theorem dL_frosts_132 : decode cL_frosts 132 = .ok (.invokestatic 185, 3) := by decide +kernel
theorem dL_frosts_135 : decode cL_frosts 135 = .ok (.ldc2_w 188, 3) := by decide +kernel
theorem dL_frosts_138 : decode cL_frosts 138 = .ok (.lcmp, 1) := by decide +kernel
theorem dL_frosts_139 : decode cL_frosts 139 = .ok (.ifCond .eq 5, 3) := by decide +kernel
theorem dL_frosts_142 : decode cL_frosts 142 = .ok (.iconst 0, 1) := by decide +kernel
theorem dL_frosts_143 : decode cL_frosts 143 = .ok (.ireturn, 1) := by decide +kernel
theorem dL_frosts_144 : decode cL_frosts 144 = .ok (.iconst 0, 1) := by decide +kernel
theorem dL_frosts_145 : decode cL_frosts 145 = .ok (.istore 4, 2) := by decide +kernel
theorem dL_frosts_147 : decode cL_frosts 147 = .ok (.iconst 0, 1) := by decide +kernel
theorem dL_frosts_148 : decode cL_frosts 148 = .ok (.istore 5, 2) := by decide +kernel
theorem dL_frosts_150 : decode cL_frosts 150 = .ok (.iload 4, 2) := by decide +kernel
theorem dL_frosts_152 : decode cL_frosts 152 = .ok (.iload_n 3, 1) := by decide +kernel
theorem dL_frosts_153 : decode cL_frosts 153 = .ok (.bipush 10, 2) := by decide +kernel
theorem dL_frosts_155 : decode cL_frosts 155 = .ok (.idiv, 1) := by decide +kernel
theorem dL_frosts_156 : decode cL_frosts 156 = .ok (.if_icmp .ge 94, 3) := by decide +kernel
theorem dL_frosts_159 : decode cL_frosts 159 = .ok (.iload 4, 2) := by decide +kernel
theorem dL_frosts_161 : decode cL_frosts 161 = .ok (.iload_n 2, 1) := by decide +kernel
theorem dL_frosts_162 : decode cL_frosts 162 = .ok (.iadd, 1) := by decide +kernel
theorem dL_frosts_163 : decode cL_frosts 163 = .ok (.istore 4, 2) := by decide +kernel
theorem dL_frosts_165 : decode cL_frosts 165 = .ok (.iinc 5 1, 3) := by decide +kernel
theorem dL_frosts_168 : decode cL_frosts 168 = .ok (.aload_n 1, 1) := by decide +kernel
theorem dL_frosts_169 : decode cL_frosts 169 = .ok (.bipush 72, 2) := by decide +kernel
theorem dL_frosts_171 : decode cL_frosts 171 = .ok (.iconst 1, 1) := by decide +kernel
theorem dL_frosts_172 : decode cL_frosts 172 = .ok (.newarray .int, 2) := by decide +kernel
theorem dL_frosts_174 : decode cL_frosts 174 = .ok (.dup, 1) := by decide +kernel
theorem dL_frosts_175 : decode cL_frosts 175 = .ok (.iconst 0, 1) := by decide +kernel
theorem dL_frosts_176 : decode cL_frosts 176 = .ok (.iconst 1, 1) := by decide +kernel
theorem dL_frosts_177 : decode cL_frosts 177 = .ok (.iastore, 1) := by decide +kernel
theorem dL_frosts_178 : decode cL_frosts 178 = .ok (.invokestatic 185, 3) := by decide +kernel
theorem dL_frosts_181 : decode cL_frosts 181 = .ok (.iload 5, 2) := by decide +kernel
theorem dL_frosts_183 : decode cL_frosts 183 = .ok (.i2l, 1) := by decide +kernel
theorem dL_frosts_184 : decode cL_frosts 184 = .ok (.lcmp, 1) := by decide +kernel
theorem dL_frosts_185 : decode cL_frosts 185 = .ok (.ifCond .ne 63, 3) := by decide +kernel
theorem dL_frosts_188 : decode cL_frosts 188 = .ok (.aload_n 1, 1) := by decide +kernel
theorem dL_frosts_189 : decode cL_frosts 189 = .ok (.bipush 70, 2) := by decide +kernel
theorem dL_frosts_191 : decode cL_frosts 191 = .ok (.iconst 2, 1) := by decide +kernel
theorem dL_frosts_192 : decode cL_frosts 192 = .ok (.newarray .int, 2) := by decide +kernel
theorem dL_frosts_194 : decode cL_frosts 194 = .ok (.dup, 1) := by decide +kernel
theorem dL_frosts_195 : decode cL_frosts 195 = .ok (.iconst 0, 1) := by decide +kernel
theorem dL_frosts_196 : decode cL_frosts 196 = .ok (.iconst 0, 1) := by decide +kernel
theorem dL_frosts_197 : decode cL_frosts 197 = .ok (.iastore, 1) := by decide +kernel
theorem dL_frosts_198 : decode cL_frosts 198 = .ok (.dup, 1) := by decide +kernel
theorem dL_frosts_199 : decode cL_frosts 199 = .ok (.iconst 1, 1) := by decide +kernel
theorem dL_frosts_200 : decode cL_frosts 200 = .ok (.iconst 0, 1) := by decide +kernel
theorem dL_frosts_201 : decode cL_frosts 201 = .ok (.iastore, 1) := by decide +kernel
theorem dL_frosts_202 : decode cL_frosts 202 = .ok (.invokestatic 185, 3) := by decide +kernel
theorem dL_frosts_205 : decode cL_frosts 205 = .ok (.iload 4, 2) := by decide +kernel
theorem dL_frosts_207 : decode cL_frosts 207 = .ok (.i2l, 1) := by decide +kernel
theorem dL_frosts_208 : decode cL_frosts 208 = .ok (.lcmp, 1) := by decide +kernel
theorem dL_frosts_209 : decode cL_frosts 209 = .ok (.ifCond .ne 39, 3) := by decide +kernel
theorem dL_frosts_212 : decode cL_frosts 212 = .ok (.aload_n 1, 1) := by decide +kernel
theorem dL_frosts_213 : decode cL_frosts 213 = .ok (.bipush 122, 2) := by decide +kernel
theorem dL_frosts_215 : decode cL_frosts 215 = .ok (.iconst 2, 1) := by decide +kernel
theorem dL_frosts_216 : decode cL_frosts 216 = .ok (.newarray .int, 2) := by decide +kernel
theorem dL_frosts_218 : decode cL_frosts 218 = .ok (.dup, 1) := by decide +kernel
theorem dL_frosts_219 : decode cL_frosts 219 = .ok (.iconst 0, 1) := by decide +kernel
theorem dL_frosts_220 : decode cL_frosts 220 = .ok (.iconst 0, 1) := by decide +kernel
theorem dL_frosts_221 : decode cL_frosts 221 = .ok (.iastore, 1) := by decide +kernel
theorem dL_frosts_222 : decode cL_frosts 222 = .ok (.dup, 1) := by decide +kernel
theorem dL_frosts_223 : decode cL_frosts 223 = .ok (.iconst 1, 1) := by decide +kernel
theorem dL_frosts_224 : decode cL_frosts 224 = .ok (.iconst 0, 1) := by decide +kernel
theorem dL_frosts_225 : decode cL_frosts 225 = .ok (.iastore, 1) := by decide +kernel
theorem dL_frosts_226 : decode cL_frosts 226 = .ok (.invokestatic 185, 3) := by decide +kernel
theorem dL_frosts_229 : decode cL_frosts 229 = .ok (.iload 4, 2) := by decide +kernel
theorem dL_frosts_231 : decode cL_frosts 231 = .ok (.iload_n 3, 1) := by decide +kernel
theorem dL_frosts_232 : decode cL_frosts 232 = .ok (.bipush 10, 2) := by decide +kernel
theorem dL_frosts_234 : decode cL_frosts 234 = .ok (.idiv, 1) := by decide +kernel
theorem dL_frosts_235 : decode cL_frosts 235 = .ok (.if_icmp .lt 7, 3) := by decide +kernel
theorem dL_frosts_238 : decode cL_frosts 238 = .ok (.iconst 1, 1) := by decide +kernel
theorem dL_frosts_239 : decode cL_frosts 239 = .ok (.goto 4, 3) := by decide +kernel
theorem dL_frosts_242 : decode cL_frosts 242 = .ok (.iconst 0, 1) := by decide +kernel
theorem dL_frosts_243 : decode cL_frosts 243 = .ok (.i2l, 1) := by decide +kernel
theorem dL_frosts_244 : decode cL_frosts 244 = .ok (.lcmp, 1) := by decide +kernel
theorem dL_frosts_245 : decode cL_frosts 245 = .ok (.ifCond .eq (-95), 3) := by decide +kernel
theorem dL_frosts_248 : decode cL_frosts 248 = .ok (.iconst 0, 1) := by decide +kernel
theorem dL_frosts_249 : decode cL_frosts 249 = .ok (.ireturn, 1) := by decide +kernel
theorem dL_frosts_250 : decode cL_frosts 250 = .ok (.aload_n 1, 1) := by decide +kernel
theorem dL_frosts_251 : decode cL_frosts 251 = .ok (.bipush 87, 2) := by decide +kernel
theorem dL_frosts_253 : decode cL_frosts 253 = .ok (.iconst 2, 1) := by decide +kernel
theorem dL_frosts_254 : decode cL_frosts 254 = .ok (.newarray .int, 2) := by decide +kernel
theorem dL_frosts_256 : decode cL_frosts 256 = .ok (.dup, 1) := by decide +kernel
theorem dL_frosts_257 : decode cL_frosts 257 = .ok (.iconst 0, 1) := by decide +kernel
theorem dL_frosts_258 : decode cL_frosts 258 = .ok (.iconst 0, 1) := by decide +kernel
theorem dL_frosts_259 : decode cL_frosts 259 = .ok (.iastore, 1) := by decide +kernel
theorem dL_frosts_260 : decode cL_frosts 260 = .ok (.dup, 1) := by decide +kernel
theorem dL_frosts_261 : decode cL_frosts 261 = .ok (.iconst 1, 1) := by decide +kernel
theorem dL_frosts_262 : decode cL_frosts 262 = .ok (.iconst 0, 1) := by decide +kernel
theorem dL_frosts_263 : decode cL_frosts 263 = .ok (.iastore, 1) := by decide +kernel
theorem dL_frosts_264 : decode cL_frosts 264 = .ok (.invokestatic 185, 3) := by decide +kernel
theorem dL_frosts_267 : decode cL_frosts 267 = .ok (.lstore 6, 2) := by decide +kernel
theorem dL_frosts_269 : decode cL_frosts 269 = .ok (.aload_n 1, 1) := by decide +kernel
theorem dL_frosts_270 : decode cL_frosts 270 = .ok (.bipush 120, 2) := by decide +kernel
theorem dL_frosts_272 : decode cL_frosts 272 = .ok (.iconst 2, 1) := by decide +kernel
theorem dL_frosts_273 : decode cL_frosts 273 = .ok (.newarray .int, 2) := by decide +kernel
theorem dL_frosts_275 : decode cL_frosts 275 = .ok (.dup, 1) := by decide +kernel
theorem dL_frosts_276 : decode cL_frosts 276 = .ok (.iconst 0, 1) := by decide +kernel
theorem dL_frosts_277 : decode cL_frosts 277 = .ok (.iconst 0, 1) := by decide +kernel
theorem dL_frosts_278 : decode cL_frosts 278 = .ok (.iastore, 1) := by decide +kernel
theorem dL_frosts_279 : decode cL_frosts 279 = .ok (.dup, 1) := by decide +kernel
theorem dL_frosts_280 : decode cL_frosts 280 = .ok (.iconst 1, 1) := by decide +kernel
theorem dL_frosts_281 : decode cL_frosts 281 = .ok (.iconst 0, 1) := by decide +kernel
theorem dL_frosts_282 : decode cL_frosts 282 = .ok (.iastore, 1) := by decide +kernel
theorem dL_frosts_283 : decode cL_frosts 283 = .ok (.invokestatic 185, 3) := by decide +kernel
theorem dL_frosts_286 : decode cL_frosts 286 = .ok (.ldc2_w 91, 3) := by decide +kernel
theorem dL_frosts_289 : decode cL_frosts 289 = .ok (.lcmp, 1) := by decide +kernel
theorem dL_frosts_290 : decode cL_frosts 290 = .ok (.ifCond .ne 129, 3) := by decide +kernel
theorem dL_frosts_293 : decode cL_frosts 293 = .ok (.aload_n 1, 1) := by decide +kernel
theorem dL_frosts_294 : decode cL_frosts 294 = .ok (.bipush 117, 2) := by decide +kernel
theorem dL_frosts_296 : decode cL_frosts 296 = .ok (.iconst 1, 1) := by decide +kernel
theorem dL_frosts_297 : decode cL_frosts 297 = .ok (.newarray .int, 2) := by decide +kernel
theorem dL_frosts_299 : decode cL_frosts 299 = .ok (.dup, 1) := by decide +kernel
theorem dL_frosts_300 : decode cL_frosts 300 = .ok (.iconst 0, 1) := by decide +kernel
theorem dL_frosts_301 : decode cL_frosts 301 = .ok (.iconst 0, 1) := by decide +kernel
theorem dL_frosts_302 : decode cL_frosts 302 = .ok (.iastore, 1) := by decide +kernel
theorem dL_frosts_303 : decode cL_frosts 303 = .ok (.invokestatic 185, 3) := by decide +kernel
theorem dL_frosts_306 : decode cL_frosts 306 = .ok (.lload 6, 2) := by decide +kernel
theorem dL_frosts_308 : decode cL_frosts 308 = .ok (.ldc2_w 188, 3) := by decide +kernel
theorem dL_frosts_311 : decode cL_frosts 311 = .ok (.ldiv, 1) := by decide +kernel
theorem dL_frosts_312 : decode cL_frosts 312 = .ok (.lcmp, 1) := by decide +kernel
theorem dL_frosts_313 : decode cL_frosts 313 = .ok (.ifCond .ne 106, 3) := by decide +kernel
theorem dL_frosts_316 : decode cL_frosts 316 = .ok (.aload_n 1, 1) := by decide +kernel
theorem dL_frosts_317 : decode cL_frosts 317 = .ok (.invokevirtual 157, 3) := by decide +kernel
theorem dL_frosts_320 : decode cL_frosts 320 = .ok (.ldc_w 306, 3) := by decide +kernel
theorem dL_frosts_323 : decode cL_frosts 323 = .ok (.fcmp .l, 1) := by decide +kernel
theorem dL_frosts_324 : decode cL_frosts 324 = .ok (.ifCond .ne 95, 3) := by decide +kernel
theorem dL_frosts_327 : decode cL_frosts 327 = .ok (.aload_n 1, 1) := by decide +kernel
theorem dL_frosts_328 : decode cL_frosts 328 = .ok (.bipush 72, 2) := by decide +kernel
theorem dL_frosts_330 : decode cL_frosts 330 = .ok (.iconst 1, 1) := by decide +kernel
theorem dL_frosts_331 : decode cL_frosts 331 = .ok (.newarray .int, 2) := by decide +kernel
theorem dL_frosts_333 : decode cL_frosts 333 = .ok (.dup, 1) := by decide +kernel
theorem dL_frosts_334 : decode cL_frosts 334 = .ok (.iconst 0, 1) := by decide +kernel
theorem dL_frosts_335 : decode cL_frosts 335 = .ok (.iconst 1, 1) := by decide +kernel
theorem dL_frosts_336 : decode cL_frosts 336 = .ok (.iastore, 1) := by decide +kernel
theorem dL_frosts_337 : decode cL_frosts 337 = .ok (.invokestatic 185, 3) := by decide +kernel
theorem dL_frosts_340 : decode cL_frosts 340 = .ok (.iload 5, 2) := by decide +kernel
theorem dL_frosts_342 : decode cL_frosts 342 = .ok (.iconst 1, 1) := by decide +kernel
theorem dL_frosts_343 : decode cL_frosts 343 = .ok (.iadd, 1) := by decide +kernel
theorem dL_frosts_344 : decode cL_frosts 344 = .ok (.i2l, 1) := by decide +kernel
theorem dL_frosts_345 : decode cL_frosts 345 = .ok (.lcmp, 1) := by decide +kernel
theorem dL_frosts_346 : decode cL_frosts 346 = .ok (.ifCond .ne 73, 3) := by decide +kernel
theorem dL_frosts_349 : decode cL_frosts 349 = .ok (.aload_n 1, 1) := by decide +kernel
theorem dL_frosts_350 : decode cL_frosts 350 = .ok (.bipush 87, 2) := by decide +kernel
theorem dL_frosts_352 : decode cL_frosts 352 = .ok (.iconst 2, 1) := by decide +kernel
theorem dL_frosts_353 : decode cL_frosts 353 = .ok (.newarray .int, 2) := by decide +kernel
theorem dL_frosts_355 : decode cL_frosts 355 = .ok (.dup, 1) := by decide +kernel
theorem dL_frosts_356 : decode cL_frosts 356 = .ok (.iconst 0, 1) := by decide +kernel
theorem dL_frosts_357 : decode cL_frosts 357 = .ok (.iconst 0, 1) := by decide +kernel
theorem dL_frosts_358 : decode cL_frosts 358 = .ok (.iastore, 1) := by decide +kernel
theorem dL_frosts_359 : decode cL_frosts 359 = .ok (.dup, 1) := by decide +kernel
theorem dL_frosts_360 : decode cL_frosts 360 = .ok (.iconst 1, 1) := by decide +kernel
theorem dL_frosts_361 : decode cL_frosts 361 = .ok (.iconst 0, 1) := by decide +kernel
theorem dL_frosts_362 : decode cL_frosts 362 = .ok (.iastore, 1) := by decide +kernel
theorem dL_frosts_363 : decode cL_frosts 363 = .ok (.invokestatic 185, 3) := by decide +kernel
theorem dL_frosts_366 : decode cL_frosts 366 = .ok (.lload 6, 2) := by decide +kernel
theorem dL_frosts_368 : decode cL_frosts 368 = .ok (.lcmp, 1) := by decide +kernel
theorem dL_frosts_369 : decode cL_frosts 369 = .ok (.ifCond .ne 50, 3) := by decide +kernel
theorem dL_frosts_372 : decode cL_frosts 372 = .ok (.aload_n 1, 1) := by decide +kernel
theorem dL_frosts_373 : decode cL_frosts 373 = .ok (.bipush 70, 2) := by decide +kernel
theorem dL_frosts_375 : decode cL_frosts 375 = .ok (.iconst 2, 1) := by decide +kernel
theorem dL_frosts_376 : decode cL_frosts 376 = .ok (.newarray .int, 2) := by decide +kernel
theorem dL_frosts_378 : decode cL_frosts 378 = .ok (.dup, 1) := by decide +kernel
theorem dL_frosts_379 : decode cL_frosts 379 = .ok (.iconst 0, 1) := by decide +kernel
theorem dL_frosts_380 : decode cL_frosts 380 = .ok (.iconst 0, 1) := by decide +kernel
theorem dL_frosts_381 : decode cL_frosts 381 = .ok (.iastore, 1) := by decide +kernel
theorem dL_frosts_382 : decode cL_frosts 382 = .ok (.dup, 1) := by decide +kernel
theorem dL_frosts_383 : decode cL_frosts 383 = .ok (.iconst 1, 1) := by decide +kernel
theorem dL_frosts_384 : decode cL_frosts 384 = .ok (.iconst 1, 1) := by decide +kernel
theorem dL_frosts_385 : decode cL_frosts 385 = .ok (.iastore, 1) := by decide +kernel
theorem dL_frosts_386 : decode cL_frosts 386 = .ok (.invokestatic 185, 3) := by decide +kernel
theorem dL_frosts_389 : decode cL_frosts 389 = .ok (.iload_n 2, 1) := by decide +kernel
theorem dL_frosts_390 : decode cL_frosts 390 = .ok (.i2l, 1) := by decide +kernel
theorem dL_frosts_391 : decode cL_frosts 391 = .ok (.lcmp, 1) := by decide +kernel
theorem dL_frosts_392 : decode cL_frosts 392 = .ok (.ifCond .ne 27, 3) := by decide +kernel
theorem dL_frosts_395 : decode cL_frosts 395 = .ok (.aload_n 1, 1) := by decide +kernel
theorem dL_frosts_396 : decode cL_frosts 396 = .ok (.bipush 70, 2) := by decide +kernel
theorem dL_frosts_398 : decode cL_frosts 398 = .ok (.iconst 2, 1) := by decide +kernel
theorem dL_frosts_399 : decode cL_frosts 399 = .ok (.newarray .int, 2) := by decide +kernel
theorem dL_frosts_401 : decode cL_frosts 401 = .ok (.dup, 1) := by decide +kernel
theorem dL_frosts_402 : decode cL_frosts 402 = .ok (.iconst 0, 1) := by decide +kernel
theorem dL_frosts_403 : decode cL_frosts 403 = .ok (.iconst 0, 1) := by decide +kernel
theorem dL_frosts_404 : decode cL_frosts 404 = .ok (.iastore, 1) := by decide +kernel
theorem dL_frosts_405 : decode cL_frosts 405 = .ok (.dup, 1) := by decide +kernel
theorem dL_frosts_406 : decode cL_frosts 406 = .ok (.iconst 1, 1) := by decide +kernel
theorem dL_frosts_407 : decode cL_frosts 407 = .ok (.iconst 0, 1) := by decide +kernel
theorem dL_frosts_408 : decode cL_frosts 408 = .ok (.iastore, 1) := by decide +kernel
theorem dL_frosts_409 : decode cL_frosts 409 = .ok (.invokestatic 185, 3) := by decide +kernel
theorem dL_frosts_412 : decode cL_frosts 412 = .ok (.iload 4, 2) := by decide +kernel
theorem dL_frosts_414 : decode cL_frosts 414 = .ok (.i2l, 1) := by decide +kernel
theorem dL_frosts_415 : decode cL_frosts 415 = .ok (.lcmp, 1) := by decide +kernel
theorem dL_frosts_416 : decode cL_frosts 416 = .ok (.ifCond .eq 5, 3) := by decide +kernel
theorem dL_frosts_419 : decode cL_frosts 419 = .ok (.iconst 0, 1) := by decide +kernel
theorem dL_frosts_420 : decode cL_frosts 420 = .ok (.ireturn, 1) := by decide +kernel
theorem dL_frosts_421 : decode cL_frosts 421 = .ok (.iconst 1, 1) := by decide +kernel
theorem dL_frosts_422 : decode cL_frosts 422 = .ok (.aload_n 0, 1) := by decide +kernel
theorem dL_frosts_423 : decode cL_frosts 423 = .ok (.iconst 2, 1) := by decide +kernel
theorem dL_frosts_424 : decode cL_frosts 424 = .ok (.invokestatic 299, 3) := by decide +kernel
theorem dL_frosts_427 : decode cL_frosts 427 = .ok (.bipush 9, 2) := by decide +kernel
theorem dL_frosts_429 : decode cL_frosts 429 = .ok (.invokestatic 303, 3) := by decide +kernel
theorem dL_frosts_432 : decode cL_frosts 432 = .ok (.iadd, 1) := by decide +kernel
theorem dL_frosts_433 : decode cL_frosts 433 = .ok (.istore 8, 2) := by decide +kernel
theorem dL_frosts_435 : decode cL_frosts 435 = .ok (.aload_n 1, 1) := by decide +kernel
theorem dL_frosts_436 : decode cL_frosts 436 = .ok (.bipush 84, 2) := by decide +kernel
theorem dL_frosts_438 : decode cL_frosts 438 = .ok (.iconst 3, 1) := by decide +kernel
theorem dL_frosts_439 : decode cL_frosts 439 = .ok (.newarray .int, 2) := by decide +kernel
theorem dL_frosts_441 : decode cL_frosts 441 = .ok (.dup, 1) := by decide +kernel
theorem dL_frosts_442 : decode cL_frosts 442 = .ok (.iconst 0, 1) := by decide +kernel
theorem dL_frosts_443 : decode cL_frosts 443 = .ok (.iload 8, 2) := by decide +kernel
theorem dL_frosts_445 : decode cL_frosts 445 = .ok (.iastore, 1) := by decide +kernel
theorem dL_frosts_446 : decode cL_frosts 446 = .ok (.dup, 1) := by decide +kernel
theorem dL_frosts_447 : decode cL_frosts 447 = .ok (.iconst 1, 1) := by decide +kernel
theorem dL_frosts_448 : decode cL_frosts 448 = .ok (.iconst 0, 1) := by decide +kernel
theorem dL_frosts_449 : decode cL_frosts 449 = .ok (.iastore, 1) := by decide +kernel
theorem dL_frosts_450 : decode cL_frosts 450 = .ok (.dup, 1) := by decide +kernel
theorem dL_frosts_451 : decode cL_frosts 451 = .ok (.iconst 2, 1) := by decide +kernel
theorem dL_frosts_452 : decode cL_frosts 452 = .ok (.iconst 0, 1) := by decide +kernel
theorem dL_frosts_453 : decode cL_frosts 453 = .ok (.iastore, 1) := by decide +kernel
theorem dL_frosts_454 : decode cL_frosts 454 = .ok (.invokestatic 185, 3) := by decide +kernel
theorem dL_frosts_457 : decode cL_frosts 457 = .ok (.iload_n 2, 1) := by decide +kernel
theorem dL_frosts_458 : decode cL_frosts 458 = .ok (.ineg, 1) := by decide +kernel
theorem dL_frosts_459 : decode cL_frosts 459 = .ok (.i2l, 1) := by decide +kernel
theorem dL_frosts_460 : decode cL_frosts 460 = .ok (.lcmp, 1) := by decide +kernel
theorem dL_frosts_461 : decode cL_frosts 461 = .ok (.ifCond .eq 5, 3) := by decide +kernel
theorem dL_frosts_464 : decode cL_frosts 464 = .ok (.iconst 0, 1) := by decide +kernel
theorem dL_frosts_465 : decode cL_frosts 465 = .ok (.ireturn, 1) := by decide +kernel
theorem dL_frosts_466 : decode cL_frosts 466 = .ok (.iload 4, 2) := by decide +kernel
theorem dL_frosts_468 : decode cL_frosts 468 = .ok (.iload 8, 2) := by decide +kernel
theorem dL_frosts_470 : decode cL_frosts 470 = .ok (.isub, 1) := by decide +kernel
theorem dL_frosts_471 : decode cL_frosts 471 = .ok (.istore 9, 2) := by decide +kernel
theorem dL_frosts_473 : decode cL_frosts 473 = .ok (.iload 9, 2) := by decide +kernel
theorem dL_frosts_475 : decode cL_frosts 475 = .ok (.ifCond .le 79, 3) := by decide +kernel
theorem dL_frosts_478 : decode cL_frosts 478 = .ok (.aload_n 1, 1) := by decide +kernel
theorem dL_frosts_479 : decode cL_frosts 479 = .ok (.bipush 72, 2) := by decide +kernel
theorem dL_frosts_481 : decode cL_frosts 481 = .ok (.iconst 1, 1) := by decide +kernel
theorem dL_frosts_482 : decode cL_frosts 482 = .ok (.newarray .int, 2) := by decide +kernel
theorem dL_frosts_484 : decode cL_frosts 484 = .ok (.dup, 1) := by decide +kernel
theorem dL_frosts_485 : decode cL_frosts 485 = .ok (.iconst 0, 1) := by decide +kernel
theorem dL_frosts_486 : decode cL_frosts 486 = .ok (.iconst 1, 1) := by decide +kernel
theorem dL_frosts_487 : decode cL_frosts 487 = .ok (.iastore, 1) := by decide +kernel
theorem dL_frosts_488 : decode cL_frosts 488 = .ok (.invokestatic 185, 3) := by decide +kernel
theorem dL_frosts_491 : decode cL_frosts 491 = .ok (.lconst 0, 1) := by decide +kernel
theorem dL_frosts_492 : decode cL_frosts 492 = .ok (.lcmp, 1) := by decide +kernel
theorem dL_frosts_493 : decode cL_frosts 493 = .ok (.ifCond .lt 49, 3) := by decide +kernel
theorem dL_frosts_496 : decode cL_frosts 496 = .ok (.aload_n 1, 1) := by decide +kernel
theorem dL_frosts_497 : decode cL_frosts 497 = .ok (.bipush 70, 2) := by decide +kernel
theorem dL_frosts_499 : decode cL_frosts 499 = .ok (.iconst 2, 1) := by decide +kernel
theorem dL_frosts_500 : decode cL_frosts 500 = .ok (.newarray .int, 2) := by decide +kernel
theorem dL_frosts_502 : decode cL_frosts 502 = .ok (.dup, 1) := by decide +kernel
theorem dL_frosts_503 : decode cL_frosts 503 = .ok (.iconst 0, 1) := by decide +kernel
theorem dL_frosts_504 : decode cL_frosts 504 = .ok (.iconst 0, 1) := by decide +kernel
theorem dL_frosts_505 : decode cL_frosts 505 = .ok (.iastore, 1) := by decide +kernel
theorem dL_frosts_506 : decode cL_frosts 506 = .ok (.dup, 1) := by decide +kernel
theorem dL_frosts_507 : decode cL_frosts 507 = .ok (.iconst 1, 1) := by decide +kernel
theorem dL_frosts_508 : decode cL_frosts 508 = .ok (.iconst 0, 1) := by decide +kernel
theorem dL_frosts_509 : decode cL_frosts 509 = .ok (.iastore, 1) := by decide +kernel
theorem dL_frosts_510 : decode cL_frosts 510 = .ok (.invokestatic 185, 3) := by decide +kernel
theorem dL_frosts_513 : decode cL_frosts 513 = .ok (.iload 9, 2) := by decide +kernel
theorem dL_frosts_515 : decode cL_frosts 515 = .ok (.i2l, 1) := by decide +kernel
theorem dL_frosts_516 : decode cL_frosts 516 = .ok (.lcmp, 1) := by decide +kernel
theorem dL_frosts_517 : decode cL_frosts 517 = .ok (.ifCond .ne 25, 3) := by decide +kernel
theorem dL_frosts_520 : decode cL_frosts 520 = .ok (.aload_n 1, 1) := by decide +kernel
theorem dL_frosts_521 : decode cL_frosts 521 = .ok (.bipush 122, 2) := by decide +kernel
theorem dL_frosts_523 : decode cL_frosts 523 = .ok (.iconst 2, 1) := by decide +kernel
theorem dL_frosts_524 : decode cL_frosts 524 = .ok (.newarray .int, 2) := by decide +kernel
theorem dL_frosts_526 : decode cL_frosts 526 = .ok (.dup, 1) := by decide +kernel
theorem dL_frosts_527 : decode cL_frosts 527 = .ok (.iconst 0, 1) := by decide +kernel
theorem dL_frosts_528 : decode cL_frosts 528 = .ok (.iconst 0, 1) := by decide +kernel
theorem dL_frosts_529 : decode cL_frosts 529 = .ok (.iastore, 1) := by decide +kernel
theorem dL_frosts_530 : decode cL_frosts 530 = .ok (.dup, 1) := by decide +kernel
theorem dL_frosts_531 : decode cL_frosts 531 = .ok (.iconst 1, 1) := by decide +kernel
theorem dL_frosts_532 : decode cL_frosts 532 = .ok (.iconst 0, 1) := by decide +kernel
theorem dL_frosts_533 : decode cL_frosts 533 = .ok (.iastore, 1) := by decide +kernel
theorem dL_frosts_534 : decode cL_frosts 534 = .ok (.invokestatic 185, 3) := by decide +kernel
theorem dL_frosts_537 : decode cL_frosts 537 = .ok (.lconst 1, 1) := by decide +kernel
theorem dL_frosts_538 : decode cL_frosts 538 = .ok (.lcmp, 1) := by decide +kernel
theorem dL_frosts_539 : decode cL_frosts 539 = .ok (.ifCond .eq 5, 3) := by decide +kernel
theorem dL_frosts_542 : decode cL_frosts 542 = .ok (.iconst 0, 1) := by decide +kernel
theorem dL_frosts_543 : decode cL_frosts 543 = .ok (.ireturn, 1) := by decide +kernel
theorem dL_frosts_544 : decode cL_frosts 544 = .ok (.iload 9, 2) := by decide +kernel
theorem dL_frosts_546 : decode cL_frosts 546 = .ok (.iload 8, 2) := by decide +kernel
theorem dL_frosts_548 : decode cL_frosts 548 = .ok (.isub, 1) := by decide +kernel
theorem dL_frosts_549 : decode cL_frosts 549 = .ok (.istore 9, 2) := by decide +kernel
theorem dL_frosts_551 : decode cL_frosts 551 = .ok (.goto (-78), 3) := by decide +kernel
theorem dL_frosts_554 : decode cL_frosts 554 = .ok (.aload_n 1, 1) := by decide +kernel
theorem dL_frosts_555 : decode cL_frosts 555 = .ok (.bipush 72, 2) := by decide +kernel
theorem dL_frosts_557 : decode cL_frosts 557 = .ok (.iconst 1, 1) := by decide +kernel
theorem dL_frosts_558 : decode cL_frosts 558 = .ok (.newarray .int, 2) := by decide +kernel
theorem dL_frosts_560 : decode cL_frosts 560 = .ok (.dup, 1) := by decide +kernel
theorem dL_frosts_561 : decode cL_frosts 561 = .ok (.iconst 0, 1) := by decide +kernel
theorem dL_frosts_562 : decode cL_frosts 562 = .ok (.iconst 1, 1) := by decide +kernel
theorem dL_frosts_563 : decode cL_frosts 563 = .ok (.iastore, 1) := by decide +kernel
theorem dL_frosts_564 : decode cL_frosts 564 = .ok (.invokestatic 185, 3) := by decide +kernel
theorem dL_frosts_567 : decode cL_frosts 567 = .ok (.lconst 0, 1) := by decide +kernel
theorem dL_frosts_568 : decode cL_frosts 568 = .ok (.lcmp, 1) := by decide +kernel
theorem dL_frosts_569 : decode cL_frosts 569 = .ok (.ifCond .le 58, 3) := by decide +kernel
theorem dL_frosts_572 : decode cL_frosts 572 = .ok (.aload_n 1, 1) := by decide +kernel
theorem dL_frosts_573 : decode cL_frosts 573 = .ok (.bipush 70, 2) := by decide +kernel
theorem dL_frosts_575 : decode cL_frosts 575 = .ok (.iconst 2, 1) := by decide +kernel
theorem dL_frosts_576 : decode cL_frosts 576 = .ok (.newarray .int, 2) := by decide +kernel
theorem dL_frosts_578 : decode cL_frosts 578 = .ok (.dup, 1) := by decide +kernel
theorem dL_frosts_579 : decode cL_frosts 579 = .ok (.iconst 0, 1) := by decide +kernel
theorem dL_frosts_580 : decode cL_frosts 580 = .ok (.iconst 0, 1) := by decide +kernel
theorem dL_frosts_581 : decode cL_frosts 581 = .ok (.iastore, 1) := by decide +kernel
theorem dL_frosts_582 : decode cL_frosts 582 = .ok (.dup, 1) := by decide +kernel
theorem dL_frosts_583 : decode cL_frosts 583 = .ok (.iconst 1, 1) := by decide +kernel
theorem dL_frosts_584 : decode cL_frosts 584 = .ok (.iconst 0, 1) := by decide +kernel
theorem dL_frosts_585 : decode cL_frosts 585 = .ok (.iastore, 1) := by decide +kernel
theorem dL_frosts_586 : decode cL_frosts 586 = .ok (.invokestatic 185, 3) := by decide +kernel
theorem dL_frosts_589 : decode cL_frosts 589 = .ok (.lconst 0, 1) := by decide +kernel
theorem dL_frosts_590 : decode cL_frosts 590 = .ok (.lcmp, 1) := by decide +kernel
theorem dL_frosts_591 : decode cL_frosts 591 = .ok (.ifCond .ne 36, 3) := by decide +kernel
theorem dL_frosts_594 : decode cL_frosts 594 = .ok (.aload_n 1, 1) := by decide +kernel
theorem dL_frosts_595 : decode cL_frosts 595 = .ok (.bipush 122, 2) := by decide +kernel
theorem dL_frosts_597 : decode cL_frosts 597 = .ok (.iconst 2, 1) := by decide +kernel
theorem dL_frosts_598 : decode cL_frosts 598 = .ok (.newarray .int, 2) := by decide +kernel
theorem dL_frosts_600 : decode cL_frosts 600 = .ok (.dup, 1) := by decide +kernel
theorem dL_frosts_601 : decode cL_frosts 601 = .ok (.iconst 0, 1) := by decide +kernel
theorem dL_frosts_602 : decode cL_frosts 602 = .ok (.iconst 0, 1) := by decide +kernel
theorem dL_frosts_603 : decode cL_frosts 603 = .ok (.iastore, 1) := by decide +kernel
theorem dL_frosts_604 : decode cL_frosts 604 = .ok (.dup, 1) := by decide +kernel
theorem dL_frosts_605 : decode cL_frosts 605 = .ok (.iconst 1, 1) := by decide +kernel
theorem dL_frosts_606 : decode cL_frosts 606 = .ok (.iconst 0, 1) := by decide +kernel
theorem dL_frosts_607 : decode cL_frosts 607 = .ok (.iastore, 1) := by decide +kernel
theorem dL_frosts_608 : decode cL_frosts 608 = .ok (.invokestatic 185, 3) := by decide +kernel
theorem dL_frosts_611 : decode cL_frosts 611 = .ok (.lconst 0, 1) := by decide +kernel
theorem dL_frosts_612 : decode cL_frosts 612 = .ok (.lcmp, 1) := by decide +kernel
theorem dL_frosts_613 : decode cL_frosts 613 = .ok (.ifCond .ne 14, 3) := by decide +kernel
theorem dL_frosts_616 : decode cL_frosts 616 = .ok (.aload_n 1, 1) := by decide +kernel
theorem dL_frosts_617 : decode cL_frosts 617 = .ok (.invokevirtual 181, 3) := by decide +kernel
theorem dL_frosts_620 : decode cL_frosts 620 = .ok (.ifCond .eq 7, 3) := by decide +kernel
theorem dL_frosts_623 : decode cL_frosts 623 = .ok (.iconst 1, 1) := by decide +kernel
theorem dL_frosts_624 : decode cL_frosts 624 = .ok (.goto 4, 3) := by decide +kernel
theorem dL_frosts_627 : decode cL_frosts 627 = .ok (.iconst 0, 1) := by decide +kernel
theorem dL_frosts_628 : decode cL_frosts 628 = .ok (.ireturn, 1) := by decide +kernel
theorem dL_links_0 : decode cL_links 0 = .ok (.new 8, 3) := by decide +kernel
theorem dL_links_3 : decode cL_links 3 = .ok (.dup, 1) := by decide +kernel
theorem dL_links_4 : decode cL_links 4 = .ok (.invokespecial 167, 3) := by decide +kernel
theorem dL_links_7 : decode cL_links 7 = .ok (.astore_n 0, 1) := by decide +kernel
theorem dL_links_8 : decode cL_links 8 = .ok (.aload_n 0, 1) := by decide +kernel
theorem dL_links_9 : decode cL_links 9 = .ok (.bipush 75, 2) := by decide +kernel
theorem dL_links_11 : decode cL_links 11 = .ok (.iconst 1, 1) := by decide +kernel
theorem dL_links_12 : decode cL_links 12 = .ok (.newarray .int, 2) := by decide +kernel
theorem dL_links_14 : decode cL_links 14 = .ok (.dup, 1) := by decide +kernel
theorem dL_links_15 : decode cL_links 15 = .ok (.iconst 0, 1) := by decide +kernel
theorem dL_links_16 : decode cL_links 16 = .ok (.bipush 110, 2) := by decide +kernel
theorem dL_links_18 : decode cL_links 18 = .ok (.iastore, 1) := by decide +kernel
theorem dL_links_19 : decode cL_links 19 = .ok (.invokestatic 185, 3) := by decide +kernel
theorem dL_links_22 : decode cL_links 22 = .ok (.lconst 0, 1) := by decide +kernel
theorem dL_links_23 : decode cL_links 23 = .ok (.lcmp, 1) := by decide +kernel
theorem dL_links_24 : decode cL_links 24 = .ok (.ifCond .ne 354, 3) := by decide +kernel
theorem dL_links_27 : decode cL_links 27 = .ok (.aload_n 0, 1) := by decide +kernel
theorem dL_links_28 : decode cL_links 28 = .ok (.bipush 75, 2) := by decide +kernel
theorem dL_links_30 : decode cL_links 30 = .ok (.iconst 1, 1) := by decide +kernel
theorem dL_links_31 : decode cL_links 31 = .ok (.newarray .int, 2) := by decide +kernel
theorem dL_links_33 : decode cL_links 33 = .ok (.dup, 1) := by decide +kernel
theorem dL_links_34 : decode cL_links 34 = .ok (.iconst 0, 1) := by decide +kernel
theorem dL_links_35 : decode cL_links 35 = .ok (.bipush 110, 2) := by decide +kernel
theorem dL_links_37 : decode cL_links 37 = .ok (.iastore, 1) := by decide +kernel
theorem dL_links_38 : decode cL_links 38 = .ok (.invokestatic 185, 3) := by decide +kernel
theorem dL_links_41 : decode cL_links 41 = .ok (.lconst 1, 1) := by decide +kernel
theorem dL_links_42 : decode cL_links 42 = .ok (.lcmp, 1) := by decide +kernel
theorem dL_links_43 : decode cL_links 43 = .ok (.ifCond .ne 335, 3) := by decide +kernel
theorem dL_links_46 : decode cL_links 46 = .ok (.aload_n 0, 1) := by decide +kernel
theorem dL_links_47 : decode cL_links 47 = .ok (.bipush 108, 2) := by decide +kernel
theorem dL_links_49 : decode cL_links 49 = .ok (.iconst 2, 1) := by decide +kernel
theorem dL_links_50 : decode cL_links 50 = .ok (.newarray .int, 2) := by decide +kernel
theorem dL_links_52 : decode cL_links 52 = .ok (.dup, 1) := by decide +kernel
theorem dL_links_53 : decode cL_links 53 = .ok (.iconst 0, 1) := by decide +kernel
theorem dL_links_54 : decode cL_links 54 = .ok (.iconst 0, 1) := by decide +kernel
theorem dL_links_55 : decode cL_links 55 = .ok (.iastore, 1) := by decide +kernel
theorem dL_links_56 : decode cL_links 56 = .ok (.dup, 1) := by decide +kernel
theorem dL_links_57 : decode cL_links 57 = .ok (.iconst 1, 1) := by decide +kernel
theorem dL_links_58 : decode cL_links 58 = .ok (.iconst 1, 1) := by decide +kernel
theorem dL_links_59 : decode cL_links 59 = .ok (.iastore, 1) := by decide +kernel
theorem dL_links_60 : decode cL_links 60 = .ok (.invokestatic 185, 3) := by decide +kernel
theorem dL_links_63 : decode cL_links 63 = .ok (.ldc2_w 307, 3) := by decide +kernel
theorem dL_links_66 : decode cL_links 66 = .ok (.lcmp, 1) := by decide +kernel
theorem dL_links_67 : decode cL_links 67 = .ok (.ifCond .ne 311, 3) := by decide +kernel
theorem dL_links_70 : decode cL_links 70 = .ok (.aload_n 0, 1) := by decide +kernel
theorem dL_links_71 : decode cL_links 71 = .ok (.bipush 84, 2) := by decide +kernel
theorem dL_links_73 : decode cL_links 73 = .ok (.iconst 3, 1) := by decide +kernel
theorem dL_links_74 : decode cL_links 74 = .ok (.newarray .int, 2) := by decide +kernel
theorem dL_links_76 : decode cL_links 76 = .ok (.dup, 1) := by decide +kernel
theorem dL_links_77 : decode cL_links 77 = .ok (.iconst 0, 1) := by decide +kernel
theorem dL_links_78 : decode cL_links 78 = .ok (.iconst 0, 1) := by decide +kernel
theorem dL_links_79 : decode cL_links 79 = .ok (.iastore, 1) := by decide +kernel
theorem dL_links_80 : decode cL_links 80 = .ok (.dup, 1) := by decide +kernel
theorem dL_links_81 : decode cL_links 81 = .ok (.iconst 1, 1) := by decide +kernel
theorem dL_links_82 : decode cL_links 82 = .ok (.bipush 100, 2) := by decide +kernel
theorem dL_links_84 : decode cL_links 84 = .ok (.iastore, 1) := by decide +kernel
theorem dL_links_85 : decode cL_links 85 = .ok (.dup, 1) := by decide +kernel
theorem dL_links_86 : decode cL_links 86 = .ok (.iconst 2, 1) := by decide +kernel
theorem dL_links_87 : decode cL_links 87 = .ok (.iconst 0, 1) := by decide +kernel
theorem dL_links_88 : decode cL_links 88 = .ok (.iastore, 1) := by decide +kernel
theorem dL_links_89 : decode cL_links 89 = .ok (.invokestatic 185, 3) := by decide +kernel
theorem dL_links_92 : decode cL_links 92 = .ok (.ldc2_w 188, 3) := by decide +kernel
theorem dL_links_95 : decode cL_links 95 = .ok (.lcmp, 1) := by decide +kernel
theorem dL_links_96 : decode cL_links 96 = .ok (.ifCond .ne 282, 3) := by decide +kernel
theorem dL_links_99 : decode cL_links 99 = .ok (.aload_n 0, 1) := by decide +kernel
theorem dL_links_100 : decode cL_links 100 = .ok (.bipush 72, 2) := by decide +kernel
theorem dL_links_102 : decode cL_links 102 = .ok (.iconst 1, 1) := by decide +kernel
theorem dL_links_103 : decode cL_links 103 = .ok (.newarray .int, 2) := by decide +kernel
theorem dL_links_105 : decode cL_links 105 = .ok (.dup, 1) := by decide +kernel
theorem dL_links_106 : decode cL_links 106 = .ok (.iconst 0, 1) := by decide +kernel
theorem dL_links_107 : decode cL_links 107 = .ok (.iconst 1, 1) := by decide +kernel
theorem dL_links_108 : decode cL_links 108 = .ok (.iastore, 1) := by decide +kernel
theorem dL_links_109 : decode cL_links 109 = .ok (.invokestatic 185, 3) := by decide +kernel
theorem dL_links_112 : decode cL_links 112 = .ok (.lconst 1, 1) := by decide +kernel
theorem dL_links_113 : decode cL_links 113 = .ok (.lcmp, 1) := by decide +kernel
theorem dL_links_114 : decode cL_links 114 = .ok (.ifCond .ne 264, 3) := by decide +kernel
theorem dL_links_117 : decode cL_links 117 = .ok (.aload_n 0, 1) := by decide +kernel
theorem dL_links_118 : decode cL_links 118 = .ok (.bipush 116, 2) := by decide +kernel
theorem dL_links_120 : decode cL_links 120 = .ok (.iconst 1, 1) := by decide +kernel
theorem dL_links_121 : decode cL_links 121 = .ok (.newarray .int, 2) := by decide +kernel
theorem dL_links_123 : decode cL_links 123 = .ok (.dup, 1) := by decide +kernel
theorem dL_links_124 : decode cL_links 124 = .ok (.iconst 0, 1) := by decide +kernel
theorem dL_links_125 : decode cL_links 125 = .ok (.iconst 1, 1) := by decide +kernel
theorem dL_links_126 : decode cL_links 126 = .ok (.iastore, 1) := by decide +kernel
theorem dL_links_127 : decode cL_links 127 = .ok (.invokestatic 185, 3) := by decide +kernel
theorem dL_links_130 : decode cL_links 130 = .ok (.ldc2_w 237, 3) := by decide +kernel
theorem dL_links_133 : decode cL_links 133 = .ok (.lcmp, 1) := by decide +kernel
theorem dL_links_134 : decode cL_links 134 = .ok (.ifCond .ne 244, 3) := by decide +kernel
theorem dL_links_137 : decode cL_links 137 = .ok (.aload_n 0, 1) := by decide +kernel
theorem dL_links_138 : decode cL_links 138 = .ok (.bipush 102, 2) := by decide +kernel
theorem dL_links_140 : decode cL_links 140 = .ok (.iconst 1, 1) := by decide +kernel
theorem dL_links_141 : decode cL_links 141 = .ok (.newarray .int, 2) := by decide +kernel
theorem dL_links_143 : decode cL_links 143 = .ok (.dup, 1) := by decide +kernel
theorem dL_links_144 : decode cL_links 144 = .ok (.iconst 0, 1) := by decide +kernel
theorem dL_links_145 : decode cL_links 145 = .ok (.iconst 0, 1) := by decide +kernel
theorem dL_links_146 : decode cL_links 146 = .ok (.iastore, 1) := by decide +kernel
theorem dL_links_147 : decode cL_links 147 = .ok (.invokestatic 185, 3) := by decide +kernel
theorem dL_links_150 : decode cL_links 150 = .ok (.ldc2_w 237, 3) := by decide +kernel
theorem dL_links_153 : decode cL_links 153 = .ok (.lcmp, 1) := by decide +kernel
theorem dL_links_154 : decode cL_links 154 = .ok (.ifCond .ne 224, 3) := by decide +kernel
theorem dL_links_157 : decode cL_links 157 = .ok (.aload_n 0, 1) := by decide +kernel
theorem dL_links_158 : decode cL_links 158 = .ok (.bipush 102, 2) := by decide +kernel
theorem dL_links_160 : decode cL_links 160 = .ok (.iconst 1, 1) := by decide +kernel
theorem dL_links_161 : decode cL_links 161 = .ok (.newarray .int, 2) := by decide +kernel
theorem dL_links_163 : decode cL_links 163 = .ok (.dup, 1) := by decide +kernel
theorem dL_links_164 : decode cL_links 164 = .ok (.iconst 0, 1) := by decide +kernel
theorem dL_links_165 : decode cL_links 165 = .ok (.iconst 1, 1) := by decide +kernel
theorem dL_links_166 : decode cL_links 166 = .ok (.iastore, 1) := by decide +kernel
theorem dL_links_167 : decode cL_links 167 = .ok (.invokestatic 185, 3) := by decide +kernel
theorem dL_links_170 : decode cL_links 170 = .ok (.ldc2_w 231, 3) := by decide +kernel
theorem dL_links_173 : decode cL_links 173 = .ok (.lcmp, 1) := by decide +kernel
theorem dL_links_174 : decode cL_links 174 = .ok (.ifCond .ne 204, 3) := by decide +kernel
theorem dL_links_177 : decode cL_links 177 = .ok (.aload_n 0, 1) := by decide +kernel
theorem dL_links_178 : decode cL_links 178 = .ok (.bipush 108, 2) := by decide +kernel
theorem dL_links_180 : decode cL_links 180 = .ok (.iconst 2, 1) := by decide +kernel
theorem dL_links_181 : decode cL_links 181 = .ok (.newarray .int, 2) := by decide +kernel
theorem dL_links_183 : decode cL_links 183 = .ok (.dup, 1) := by decide +kernel
theorem dL_links_184 : decode cL_links 184 = .ok (.iconst 0, 1) := by decide +kernel
theorem dL_links_185 : decode cL_links 185 = .ok (.iconst 0, 1) := by decide +kernel
theorem dL_links_186 : decode cL_links 186 = .ok (.iastore, 1) := by decide +kernel
theorem dL_links_187 : decode cL_links 187 = .ok (.dup, 1) := by decide +kernel
theorem dL_links_188 : decode cL_links 188 = .ok (.iconst 1, 1) := by decide +kernel
theorem dL_links_189 : decode cL_links 189 = .ok (.iconst (-1), 1) := by decide +kernel
theorem dL_links_190 : decode cL_links 190 = .ok (.iastore, 1) := by decide +kernel
theorem dL_links_191 : decode cL_links 191 = .ok (.invokestatic 185, 3) := by decide +kernel
theorem dL_links_194 : decode cL_links 194 = .ok (.lconst 1, 1) := by decide +kernel
theorem dL_links_195 : decode cL_links 195 = .ok (.lcmp, 1) := by decide +kernel
theorem dL_links_196 : decode cL_links 196 = .ok (.ifCond .ne 182, 3) := by decide +kernel
theorem dL_links_199 : decode cL_links 199 = .ok (.aload_n 0, 1) := by decide +kernel
theorem dL_links_200 : decode cL_links 200 = .ok (.bipush 108, 2) := by decide +kernel
theorem dL_links_202 : decode cL_links 202 = .ok (.iconst 2, 1) := by decide +kernel
theorem dL_links_203 : decode cL_links 203 = .ok (.newarray .int, 2) := by decide +kernel
theorem dL_links_205 : decode cL_links 205 = .ok (.dup, 1) := by decide +kernel
theorem dL_links_206 : decode cL_links 206 = .ok (.iconst 0, 1) := by decide +kernel
theorem dL_links_207 : decode cL_links 207 = .ok (.iconst 1, 1) := by decide +kernel
theorem dL_links_208 : decode cL_links 208 = .ok (.iastore, 1) := by decide +kernel
theorem dL_links_209 : decode cL_links 209 = .ok (.dup, 1) := by decide +kernel
theorem dL_links_210 : decode cL_links 210 = .ok (.iconst 1, 1) := by decide +kernel
theorem dL_links_211 : decode cL_links 211 = .ok (.iconst 0, 1) := by decide +kernel
theorem dL_links_212 : decode cL_links 212 = .ok (.iastore, 1) := by decide +kernel
theorem dL_links_213 : decode cL_links 213 = .ok (.invokestatic 185, 3) := by decide +kernel
theorem dL_links_216 : decode cL_links 216 = .ok (.ldc2_w 307, 3) := by decide +kernel
theorem dL_links_219 : decode cL_links 219 = .ok (.lcmp, 1) := by decide +kernel
theorem dL_links_220 : decode cL_links 220 = .ok (.ifCond .ne 158, 3) := by decide +kernel
theorem dL_links_223 : decode cL_links 223 = .ok (.aload_n 0, 1) := by decide +kernel
theorem dL_links_224 : decode cL_links 224 = .ok (.bipush 72, 2) := by decide +kernel
theorem dL_links_226 : decode cL_links 226 = .ok (.iconst 1, 1) := by decide +kernel
theorem dL_links_227 : decode cL_links 227 = .ok (.newarray .int, 2) := by decide +kernel
theorem dL_links_229 : decode cL_links 229 = .ok (.dup, 1) := by decide +kernel
theorem dL_links_230 : decode cL_links 230 = .ok (.iconst 0, 1) := by decide +kernel
theorem dL_links_231 : decode cL_links 231 = .ok (.iconst 1, 1) := by decide +kernel
theorem dL_links_232 : decode cL_links 232 = .ok (.iastore, 1) := by decide +kernel
theorem dL_links_233 : decode cL_links 233 = .ok (.invokestatic 185, 3) := by decide +kernel
theorem dL_links_236 : decode cL_links 236 = .ok (.ldc2_w 225, 3) := by decide +kernel
theorem dL_links_239 : decode cL_links 239 = .ok (.lcmp, 1) := by decide +kernel
theorem dL_links_240 : decode cL_links 240 = .ok (.ifCond .ne 138, 3) := by decide +kernel
theorem dL_links_243 : decode cL_links 243 = .ok (.aload_n 0, 1) := by decide +kernel
theorem dL_links_244 : decode cL_links 244 = .ok (.bipush 102, 2) := by decide +kernel
theorem dL_links_246 : decode cL_links 246 = .ok (.iconst 1, 1) := by decide +kernel
theorem dL_links_247 : decode cL_links 247 = .ok (.newarray .int, 2) := by decide +kernel
theorem dL_links_249 : decode cL_links 249 = .ok (.dup, 1) := by decide +kernel
theorem dL_links_250 : decode cL_links 250 = .ok (.iconst 0, 1) := by decide +kernel
theorem dL_links_251 : decode cL_links 251 = .ok (.iconst 0, 1) := by decide +kernel
theorem dL_links_252 : decode cL_links 252 = .ok (.iastore, 1) := by decide +kernel
theorem dL_links_253 : decode cL_links 253 = .ok (.invokestatic 185, 3) := by decide +kernel
theorem dL_links_256 : decode cL_links 256 = .ok (.ldc2_w 309, 3) := by decide +kernel
theorem dL_links_259 : decode cL_links 259 = .ok (.lcmp, 1) := by decide +kernel
theorem dL_links_260 : decode cL_links 260 = .ok (.ifCond .ne 118, 3) := by decide +kernel
theorem dL_links_263 : decode cL_links 263 = .ok (.aload_n 0, 1) := by decide +kernel
theorem dL_links_264 : decode cL_links 264 = .ok (.bipush 102, 2) := by decide +kernel
theorem dL_links_266 : decode cL_links 266 = .ok (.iconst 1, 1) := by decide +kernel
theorem dL_links_267 : decode cL_links 267 = .ok (.newarray .int, 2) := by decide +kernel
theorem dL_links_269 : decode cL_links 269 = .ok (.dup, 1) := by decide +kernel
theorem dL_links_270 : decode cL_links 270 = .ok (.iconst 0, 1) := by decide +kernel
theorem dL_links_271 : decode cL_links 271 = .ok (.iconst 1, 1) := by decide +kernel
theorem dL_links_272 : decode cL_links 272 = .ok (.iastore, 1) := by decide +kernel
theorem dL_links_273 : decode cL_links 273 = .ok (.invokestatic 185, 3) := by decide +kernel
theorem dL_links_276 : decode cL_links 276 = .ok (.ldc2_w 239, 3) := by decide +kernel
theorem dL_links_279 : decode cL_links 279 = .ok (.lcmp, 1) := by decide +kernel
theorem dL_links_280 : decode cL_links 280 = .ok (.ifCond .ne 98, 3) := by decide +kernel
theorem dL_links_283 : decode cL_links 283 = .ok (.aload_n 0, 1) := by decide +kernel
theorem dL_links_284 : decode cL_links 284 = .ok (.bipush 84, 2) := by decide +kernel
theorem dL_links_286 : decode cL_links 286 = .ok (.iconst 3, 1) := by decide +kernel
theorem dL_links_287 : decode cL_links 287 = .ok (.newarray .int, 2) := by decide +kernel
theorem dL_links_289 : decode cL_links 289 = .ok (.dup, 1) := by decide +kernel
theorem dL_links_290 : decode cL_links 290 = .ok (.iconst 0, 1) := by decide +kernel
theorem dL_links_291 : decode cL_links 291 = .ok (.iconst 0, 1) := by decide +kernel
theorem dL_links_292 : decode cL_links 292 = .ok (.iastore, 1) := by decide +kernel
theorem dL_links_293 : decode cL_links 293 = .ok (.dup, 1) := by decide +kernel
theorem dL_links_294 : decode cL_links 294 = .ok (.iconst 1, 1) := by decide +kernel
theorem dL_links_295 : decode cL_links 295 = .ok (.iconst 0, 1) := by decide +kernel
theorem dL_links_296 : decode cL_links 296 = .ok (.iastore, 1) := by decide +kernel
theorem dL_links_297 : decode cL_links 297 = .ok (.dup, 1) := by decide +kernel
theorem dL_links_298 : decode cL_links 298 = .ok (.iconst 2, 1) := by decide +kernel
theorem dL_links_299 : decode cL_links 299 = .ok (.iconst 0, 1) := by decide +kernel
theorem dL_links_300 : decode cL_links 300 = .ok (.iastore, 1) := by decide +kernel
theorem dL_links_301 : decode cL_links 301 = .ok (.invokestatic 185, 3) := by decide +kernel
theorem dL_links_304 : decode cL_links 304 = .ok (.lconst 0, 1) := by decide +kernel
theorem dL_links_305 : decode cL_links 305 = .ok (.lcmp, 1) := by decide +kernel
theorem dL_links_306 : decode cL_links 306 = .ok (.ifCond .ne 72, 3) := by decide +kernel
theorem dL_links_309 : decode cL_links 309 = .ok (.aload_n 0, 1) := by decide +kernel
theorem dL_links_310 : decode cL_links 310 = .ok (.bipush 72, 2) := by decide +kernel
theorem dL_links_312 : decode cL_links 312 = .ok (.iconst 1, 1) := by decide +kernel
theorem dL_links_313 : decode cL_links 313 = .ok (.newarray .int, 2) := by decide +kernel
theorem dL_links_315 : decode cL_links 315 = .ok (.dup, 1) := by decide +kernel
theorem dL_links_316 : decode cL_links 316 = .ok (.iconst 0, 1) := by decide +kernel
theorem dL_links_317 : decode cL_links 317 = .ok (.iconst 1, 1) := by decide +kernel
theorem dL_links_318 : decode cL_links 318 = .ok (.iastore, 1) := by decide +kernel
theorem dL_links_319 : decode cL_links 319 = .ok (.invokestatic 185, 3) := by decide +kernel
theorem dL_links_322 : decode cL_links 322 = .ok (.ldc2_w 259, 3) := by decide +kernel
theorem dL_links_325 : decode cL_links 325 = .ok (.lcmp, 1) := by decide +kernel
theorem dL_links_326 : decode cL_links 326 = .ok (.ifCond .ne 52, 3) := by decide +kernel
theorem dL_links_329 : decode cL_links 329 = .ok (.aload_n 0, 1) := by decide +kernel
theorem dL_links_330 : decode cL_links 330 = .ok (.bipush 102, 2) := by decide +kernel
theorem dL_links_332 : decode cL_links 332 = .ok (.iconst 1, 1) := by decide +kernel
theorem dL_links_333 : decode cL_links 333 = .ok (.newarray .int, 2) := by decide +kernel
theorem dL_links_335 : decode cL_links 335 = .ok (.dup, 1) := by decide +kernel
theorem dL_links_336 : decode cL_links 336 = .ok (.iconst 0, 1) := by decide +kernel
theorem dL_links_337 : decode cL_links 337 = .ok (.iconst 0, 1) := by decide +kernel
theorem dL_links_338 : decode cL_links 338 = .ok (.iastore, 1) := by decide +kernel
theorem dL_links_339 : decode cL_links 339 = .ok (.invokestatic 185, 3) := by decide +kernel
theorem dL_links_342 : decode cL_links 342 = .ok (.ldc2_w 233, 3) := by decide +kernel
theorem dL_links_345 : decode cL_links 345 = .ok (.lcmp, 1) := by decide +kernel
theorem dL_links_346 : decode cL_links 346 = .ok (.ifCond .ne 32, 3) := by decide +kernel
theorem dL_links_349 : decode cL_links 349 = .ok (.aload_n 0, 1) := by decide +kernel
theorem dL_links_350 : decode cL_links 350 = .ok (.bipush 102, 2) := by decide +kernel
theorem dL_links_352 : decode cL_links 352 = .ok (.iconst 1, 1) := by decide +kernel
theorem dL_links_353 : decode cL_links 353 = .ok (.newarray .int, 2) := by decide +kernel
theorem dL_links_355 : decode cL_links 355 = .ok (.dup, 1) := by decide +kernel
theorem dL_links_356 : decode cL_links 356 = .ok (.iconst 0, 1) := by decide +kernel
theorem dL_links_357 : decode cL_links 357 = .ok (.iconst 1, 1) := by decide +kernel
theorem dL_links_358 : decode cL_links 358 = .ok (.iastore, 1) := by decide +kernel
theorem dL_links_359 : decode cL_links 359 = .ok (.invokestatic 185, 3) := by decide +kernel
theorem dL_links_362 : decode cL_links 362 = .ok (.ldc2_w 239, 3) := by decide +kernel
theorem dL_links_365 : decode cL_links 365 = .ok (.lcmp, 1) := by decide +kernel
theorem dL_links_366 : decode cL_links 366 = .ok (.ifCond .ne 12, 3) := by decide +kernel
theorem dL_links_369 : decode cL_links 369 = .ok (.aload_n 0, 1) := by decide +kernel
theorem dL_links_370 : decode cL_links 370 = .ok (.invokevirtual 178, 3) := by decide +kernel
theorem dL_links_373 : decode cL_links 373 = .ok (.lconst 0, 1) := by decide +kernel
theorem dL_links_374 : decode cL_links 374 = .ok (.lcmp, 1) := by decide +kernel
theorem dL_links_375 : decode cL_links 375 = .ok (.ifCond .eq 5, 3) := by decide +kernel
theorem dL_links_378 : decode cL_links 378 = .ok (.iconst 0, 1) := by decide +kernel
theorem dL_links_379 : decode cL_links 379 = .ok (.ireturn, 1) := by decide +kernel
theorem dL_links_380 : decode cL_links 380 = .ok (.aload_n 0, 1) := by decide +kernel
theorem dL_links_381 : decode cL_links 381 = .ok (.bipush 75, 2) := by decide +kernel
theorem dL_links_383 : decode cL_links 383 = .ok (.iconst 1, 1) := by decide +kernel
theorem dL_links_384 : decode cL_links 384 = .ok (.newarray .int, 2) := by decide +kernel
theorem dL_links_386 : decode cL_links 386 = .ok (.dup, 1) := by decide +kernel
theorem dL_links_387 : decode cL_links 387 = .ok (.iconst 0, 1) := by decide +kernel
theorem dL_links_388 : decode cL_links 388 = .ok (.bipush 110, 2) := by decide +kernel
theorem dL_links_390 : decode cL_links 390 = .ok (.iastore, 1) := by decide +kernel
theorem dL_links_391 : decode cL_links 391 = .ok (.invokestatic 185, 3) := by decide +kernel
theorem dL_links_394 : decode cL_links 394 = .ok (.ldc2_w 225, 3) := by decide +kernel
theorem dL_links_397 : decode cL_links 397 = .ok (.lcmp, 1) := by decide +kernel
theorem dL_links_398 : decode cL_links 398 = .ok (.ifCond .ne 284, 3) := by decide +kernel
theorem dL_links_401 : decode cL_links 401 = .ok (.aload_n 0, 1) := by decide +kernel
theorem dL_links_402 : decode cL_links 402 = .ok (.bipush 76, 2) := by decide +kernel
theorem dL_links_404 : decode cL_links 404 = .ok (.iconst 3, 1) := by decide +kernel
theorem dL_links_405 : decode cL_links 405 = .ok (.newarray .int, 2) := by decide +kernel
theorem dL_links_407 : decode cL_links 407 = .ok (.dup, 1) := by decide +kernel
theorem dL_links_408 : decode cL_links 408 = .ok (.iconst 0, 1) := by decide +kernel
theorem dL_links_409 : decode cL_links 409 = .ok (.iconst 2, 1) := by decide +kernel
theorem dL_links_410 : decode cL_links 410 = .ok (.iastore, 1) := by decide +kernel
theorem dL_links_411 : decode cL_links 411 = .ok (.dup, 1) := by decide +kernel
theorem dL_links_412 : decode cL_links 412 = .ok (.iconst 1, 1) := by decide +kernel
theorem dL_links_413 : decode cL_links 413 = .ok (.bipush 115, 2) := by decide +kernel
theorem dL_links_415 : decode cL_links 415 = .ok (.iastore, 1) := by decide +kernel
theorem dL_links_416 : decode cL_links 416 = .ok (.dup, 1) := by decide +kernel
theorem dL_links_417 : decode cL_links 417 = .ok (.iconst 2, 1) := by decide +kernel
theorem dL_links_418 : decode cL_links 418 = .ok (.bipush 100, 2) := by decide +kernel
theorem dL_links_420 : decode cL_links 420 = .ok (.iastore, 1) := by decide +kernel
theorem dL_links_421 : decode cL_links 421 = .ok (.invokestatic 185, 3) := by decide +kernel
theorem dL_links_424 : decode cL_links 424 = .ok (.lconst 1, 1) := by decide +kernel
theorem dL_links_425 : decode cL_links 425 = .ok (.lcmp, 1) := by decide +kernel
theorem dL_links_426 : decode cL_links 426 = .ok (.ifCond .ne 256, 3) := by decide +kernel
theorem dL_links_429 : decode cL_links 429 = .ok (.aload_n 0, 1) := by decide +kernel
theorem dL_links_430 : decode cL_links 430 = .ok (.bipush 114, 2) := by decide +kernel
theorem dL_links_432 : decode cL_links 432 = .ok (.iconst 3, 1) := by decide +kernel
theorem dL_links_433 : decode cL_links 433 = .ok (.newarray .int, 2) := by decide +kernel
theorem dL_links_435 : decode cL_links 435 = .ok (.dup, 1) := by decide +kernel
theorem dL_links_436 : decode cL_links 436 = .ok (.iconst 0, 1) := by decide +kernel
theorem dL_links_437 : decode cL_links 437 = .ok (.iconst 2, 1) := by decide +kernel
theorem dL_links_438 : decode cL_links 438 = .ok (.iastore, 1) := by decide +kernel
theorem dL_links_439 : decode cL_links 439 = .ok (.dup, 1) := by decide +kernel
theorem dL_links_440 : decode cL_links 440 = .ok (.iconst 1, 1) := by decide +kernel
theorem dL_links_441 : decode cL_links 441 = .ok (.sipush 130, 3) := by decide +kernel
theorem dL_links_444 : decode cL_links 444 = .ok (.iastore, 1) := by decide +kernel
theorem dL_links_445 : decode cL_links 445 = .ok (.dup, 1) := by decide +kernel
theorem dL_links_446 : decode cL_links 446 = .ok (.iconst 2, 1) := by decide +kernel
theorem dL_links_447 : decode cL_links 447 = .ok (.bipush 20, 2) := by decide +kernel
theorem dL_links_449 : decode cL_links 449 = .ok (.iastore, 1) := by decide +kernel
theorem dL_links_450 : decode cL_links 450 = .ok (.invokestatic 185, 3) := by decide +kernel
theorem dL_links_453 : decode cL_links 453 = .ok (.lconst 0, 1) := by decide +kernel
theorem dL_links_454 : decode cL_links 454 = .ok (.lcmp, 1) := by decide +kernel
theorem dL_links_455 : decode cL_links 455 = .ok (.ifCond .ne 227, 3) := by decide +kernel
theorem dL_links_458 : decode cL_links 458 = .ok (.aload_n 0, 1) := by decide +kernel
theorem dL_links_459 : decode cL_links 459 = .ok (.bipush 72, 2) := by decide +kernel
theorem dL_links_461 : decode cL_links 461 = .ok (.iconst 1, 1) := by decide +kernel
theorem dL_links_462 : decode cL_links 462 = .ok (.newarray .int, 2) := by decide +kernel
theorem dL_links_464 : decode cL_links 464 = .ok (.dup, 1) := by decide +kernel
theorem dL_links_465 : decode cL_links 465 = .ok (.iconst 0, 1) := by decide +kernel
theorem dL_links_466 : decode cL_links 466 = .ok (.iconst 1, 1) := by decide +kernel
theorem dL_links_467 : decode cL_links 467 = .ok (.iastore, 1) := by decide +kernel
theorem dL_links_468 : decode cL_links 468 = .ok (.invokestatic 185, 3) := by decide +kernel
theorem dL_links_471 : decode cL_links 471 = .ok (.ldc2_w 263, 3) := by decide +kernel
theorem dL_links_474 : decode cL_links 474 = .ok (.lcmp, 1) := by decide +kernel
theorem dL_links_475 : decode cL_links 475 = .ok (.ifCond .ne 207, 3) := by decide +kernel
theorem dL_links_478 : decode cL_links 478 = .ok (.aload_n 0, 1) := by decide +kernel
theorem dL_links_479 : decode cL_links 479 = .ok (.bipush 87, 2) := by decide +kernel
theorem dL_links_481 : decode cL_links 481 = .ok (.iconst 2, 1) := by decide +kernel
theorem dL_links_482 : decode cL_links 482 = .ok (.newarray .int, 2) := by decide +kernel
theorem dL_links_484 : decode cL_links 484 = .ok (.dup, 1) := by decide +kernel
theorem dL_links_485 : decode cL_links 485 = .ok (.iconst 0, 1) := by decide +kernel
theorem dL_links_486 : decode cL_links 486 = .ok (.iconst 2, 1) := by decide +kernel
theorem dL_links_487 : decode cL_links 487 = .ok (.iastore, 1) := by decide +kernel
theorem dL_links_488 : decode cL_links 488 = .ok (.dup, 1) := by decide +kernel
theorem dL_links_489 : decode cL_links 489 = .ok (.iconst 1, 1) := by decide +kernel
theorem dL_links_490 : decode cL_links 490 = .ok (.iconst 0, 1) := by decide +kernel
theorem dL_links_491 : decode cL_links 491 = .ok (.iastore, 1) := by decide +kernel
theorem dL_links_492 : decode cL_links 492 = .ok (.invokestatic 185, 3) := by decide +kernel
theorem dL_links_495 : decode cL_links 495 = .ok (.ldc2_w 311, 3) := by decide +kernel
theorem dL_links_498 : decode cL_links 498 = .ok (.lcmp, 1) := by decide +kernel
theorem dL_links_499 : decode cL_links 499 = .ok (.ifCond .ne 183, 3) := by decide +kernel
theorem dL_links_502 : decode cL_links 502 = .ok (.aload_n 0, 1) := by decide +kernel
theorem dL_links_503 : decode cL_links 503 = .ok (.bipush 72, 2) := by decide +kernel
theorem dL_links_505 : decode cL_links 505 = .ok (.iconst 1, 1) := by decide +kernel
theorem dL_links_506 : decode cL_links 506 = .ok (.newarray .int, 2) := by decide +kernel
theorem dL_links_508 : decode cL_links 508 = .ok (.dup, 1) := by decide +kernel
theorem dL_links_509 : decode cL_links 509 = .ok (.iconst 0, 1) := by decide +kernel
theorem dL_links_510 : decode cL_links 510 = .ok (.iconst 5, 1) := by decide +kernel
theorem dL_links_511 : decode cL_links 511 = .ok (.iastore, 1) := by decide +kernel
theorem dL_links_512 : decode cL_links 512 = .ok (.invokestatic 185, 3) := by decide +kernel
theorem dL_links_515 : decode cL_links 515 = .ok (.ldc2_w 210, 3) := by decide +kernel
theorem dL_links_518 : decode cL_links 518 = .ok (.lcmp, 1) := by decide +kernel
theorem dL_links_519 : decode cL_links 519 = .ok (.ifCond .ne 163, 3) := by decide +kernel
theorem dL_links_522 : decode cL_links 522 = .ok (.aload_n 0, 1) := by decide +kernel
theorem dL_links_523 : decode cL_links 523 = .ok (.bipush 87, 2) := by decide +kernel
theorem dL_links_525 : decode cL_links 525 = .ok (.iconst 2, 1) := by decide +kernel
theorem dL_links_526 : decode cL_links 526 = .ok (.newarray .int, 2) := by decide +kernel
theorem dL_links_528 : decode cL_links 528 = .ok (.dup, 1) := by decide +kernel
theorem dL_links_529 : decode cL_links 529 = .ok (.iconst 0, 1) := by decide +kernel
theorem dL_links_530 : decode cL_links 530 = .ok (.iconst 2, 1) := by decide +kernel
theorem dL_links_531 : decode cL_links 531 = .ok (.iastore, 1) := by decide +kernel
theorem dL_links_532 : decode cL_links 532 = .ok (.dup, 1) := by decide +kernel
theorem dL_links_533 : decode cL_links 533 = .ok (.iconst 1, 1) := by decide +kernel
theorem dL_links_534 : decode cL_links 534 = .ok (.iconst 0, 1) := by decide +kernel
theorem dL_links_535 : decode cL_links 535 = .ok (.iastore, 1) := by decide +kernel
theorem dL_links_536 : decode cL_links 536 = .ok (.invokestatic 185, 3) := by decide +kernel
theorem dL_links_539 : decode cL_links 539 = .ok (.ldc2_w 313, 3) := by decide +kernel
theorem dL_links_542 : decode cL_links 542 = .ok (.lcmp, 1) := by decide +kernel
theorem dL_links_543 : decode cL_links 543 = .ok (.ifCond .ne 139, 3) := by decide +kernel
theorem dL_links_546 : decode cL_links 546 = .ok (.aload_n 0, 1) := by decide +kernel
theorem dL_links_547 : decode cL_links 547 = .ok (.bipush 114, 2) := by decide +kernel
theorem dL_links_549 : decode cL_links 549 = .ok (.iconst 3, 1) := by decide +kernel
theorem dL_links_550 : decode cL_links 550 = .ok (.newarray .int, 2) := by decide +kernel
theorem dL_links_552 : decode cL_links 552 = .ok (.dup, 1) := by decide +kernel
theorem dL_links_553 : decode cL_links 553 = .ok (.iconst 0, 1) := by decide +kernel
theorem dL_links_554 : decode cL_links 554 = .ok (.iconst 2, 1) := by decide +kernel
theorem dL_links_555 : decode cL_links 555 = .ok (.iastore, 1) := by decide +kernel
theorem dL_links_556 : decode cL_links 556 = .ok (.dup, 1) := by decide +kernel
theorem dL_links_557 : decode cL_links 557 = .ok (.iconst 1, 1) := by decide +kernel
theorem dL_links_558 : decode cL_links 558 = .ok (.iconst 0, 1) := by decide +kernel
theorem dL_links_559 : decode cL_links 559 = .ok (.iastore, 1) := by decide +kernel
theorem dL_links_560 : decode cL_links 560 = .ok (.dup, 1) := by decide +kernel
theorem dL_links_561 : decode cL_links 561 = .ok (.iconst 2, 1) := by decide +kernel
theorem dL_links_562 : decode cL_links 562 = .ok (.bipush 20, 2) := by decide +kernel
theorem dL_links_564 : decode cL_links 564 = .ok (.iastore, 1) := by decide +kernel
theorem dL_links_565 : decode cL_links 565 = .ok (.invokestatic 185, 3) := by decide +kernel
theorem dL_links_568 : decode cL_links 568 = .ok (.ldc2_w 315, 3) := by decide +kernel
theorem dL_links_571 : decode cL_links 571 = .ok (.lcmp, 1) := by decide +kernel
theorem dL_links_572 : decode cL_links 572 = .ok (.ifCond .ne 110, 3) := by decide +kernel
theorem dL_links_575 : decode cL_links 575 = .ok (.aload_n 0, 1) := by decide +kernel
theorem dL_links_576 : decode cL_links 576 = .ok (.bipush 89, 2) := by decide +kernel
theorem dL_links_578 : decode cL_links 578 = .ok (.iconst 1, 1) := by decide +kernel
theorem dL_links_579 : decode cL_links 579 = .ok (.newarray .int, 2) := by decide +kernel
theorem dL_links_581 : decode cL_links 581 = .ok (.dup, 1) := by decide +kernel
theorem dL_links_582 : decode cL_links 582 = .ok (.iconst 0, 1) := by decide +kernel
theorem dL_links_583 : decode cL_links 583 = .ok (.iconst 2, 1) := by decide +kernel
theorem dL_links_584 : decode cL_links 584 = .ok (.iastore, 1) := by decide +kernel
theorem dL_links_585 : decode cL_links 585 = .ok (.invokestatic 185, 3) := by decide +kernel
theorem dL_links_588 : decode cL_links 588 = .ok (.lconst 0, 1) := by decide +kernel
theorem dL_links_589 : decode cL_links 589 = .ok (.lcmp, 1) := by decide +kernel
theorem dL_links_590 : decode cL_links 590 = .ok (.ifCond .ne 92, 3) := by decide +kernel
theorem dL_links_593 : decode cL_links 593 = .ok (.aload_n 0, 1) := by decide +kernel
theorem dL_links_594 : decode cL_links 594 = .ok (.bipush 72, 2) := by decide +kernel
theorem dL_links_596 : decode cL_links 596 = .ok (.iconst 1, 1) := by decide +kernel
theorem dL_links_597 : decode cL_links 597 = .ok (.newarray .int, 2) := by decide +kernel
theorem dL_links_599 : decode cL_links 599 = .ok (.dup, 1) := by decide +kernel
theorem dL_links_600 : decode cL_links 600 = .ok (.iconst 0, 1) := by decide +kernel
theorem dL_links_601 : decode cL_links 601 = .ok (.bipush 48, 2) := by decide +kernel
theorem dL_links_603 : decode cL_links 603 = .ok (.iastore, 1) := by decide +kernel
theorem dL_links_604 : decode cL_links 604 = .ok (.invokestatic 185, 3) := by decide +kernel
theorem dL_links_607 : decode cL_links 607 = .ok (.ldc2_w 317, 3) := by decide +kernel
theorem dL_links_610 : decode cL_links 610 = .ok (.lcmp, 1) := by decide +kernel
theorem dL_links_611 : decode cL_links 611 = .ok (.ifCond .ne 71, 3) := by decide +kernel
theorem dL_links_614 : decode cL_links 614 = .ok (.aload_n 0, 1) := by decide +kernel
theorem dL_links_615 : decode cL_links 615 = .ok (.bipush 121, 2) := by decide +kernel
theorem dL_links_617 : decode cL_links 617 = .ok (.iconst 2, 1) := by decide +kernel
theorem dL_links_618 : decode cL_links 618 = .ok (.newarray .int, 2) := by decide +kernel
theorem dL_links_620 : decode cL_links 620 = .ok (.dup, 1) := by decide +kernel
theorem dL_links_621 : decode cL_links 621 = .ok (.iconst 0, 1) := by decide +kernel
theorem dL_links_622 : decode cL_links 622 = .ok (.iconst 2, 1) := by decide +kernel
theorem dL_links_623 : decode cL_links 623 = .ok (.iastore, 1) := by decide +kernel
theorem dL_links_624 : decode cL_links 624 = .ok (.dup, 1) := by decide +kernel
theorem dL_links_625 : decode cL_links 625 = .ok (.iconst 1, 1) := by decide +kernel
theorem dL_links_626 : decode cL_links 626 = .ok (.iconst 0, 1) := by decide +kernel
theorem dL_links_627 : decode cL_links 627 = .ok (.iastore, 1) := by decide +kernel
theorem dL_links_628 : decode cL_links 628 = .ok (.invokestatic 185, 3) := by decide +kernel
theorem dL_links_631 : decode cL_links 631 = .ok (.ldc2_w 319, 3) := by decide +kernel
theorem dL_links_634 : decode cL_links 634 = .ok (.lcmp, 1) := by decide +kernel
theorem dL_links_635 : decode cL_links 635 = .ok (.ifCond .ne 47, 3) := by decide +kernel
theorem dL_links_638 : decode cL_links 638 = .ok (.aload_n 0, 1) := by decide +kernel
theorem dL_links_639 : decode cL_links 639 = .ok (.bipush 89, 2) := by decide +kernel
theorem dL_links_641 : decode cL_links 641 = .ok (.iconst 1, 1) := by decide +kernel
theorem dL_links_642 : decode cL_links 642 = .ok (.newarray .int, 2) := by decide +kernel
theorem dL_links_644 : decode cL_links 644 = .ok (.dup, 1) := by decide +kernel
theorem dL_links_645 : decode cL_links 645 = .ok (.iconst 0, 1) := by decide +kernel
theorem dL_links_646 : decode cL_links 646 = .ok (.iconst 2, 1) := by decide +kernel
theorem dL_links_647 : decode cL_links 647 = .ok (.iastore, 1) := by decide +kernel
theorem dL_links_648 : decode cL_links 648 = .ok (.invokestatic 185, 3) := by decide +kernel
theorem dL_links_651 : decode cL_links 651 = .ok (.ldc2_w 225, 3) := by decide +kernel
theorem dL_links_654 : decode cL_links 654 = .ok (.lcmp, 1) := by decide +kernel
theorem dL_links_655 : decode cL_links 655 = .ok (.ifCond .ne 27, 3) := by decide +kernel
theorem dL_links_658 : decode cL_links 658 = .ok (.aload_n 0, 1) := by decide +kernel
theorem dL_links_659 : decode cL_links 659 = .ok (.bipush 121, 2) := by decide +kernel
theorem dL_links_661 : decode cL_links 661 = .ok (.iconst 2, 1) := by decide +kernel
theorem dL_links_662 : decode cL_links 662 = .ok (.newarray .int, 2) := by decide +kernel
theorem dL_links_664 : decode cL_links 664 = .ok (.dup, 1) := by decide +kernel
theorem dL_links_665 : decode cL_links 665 = .ok (.iconst 0, 1) := by decide +kernel
theorem dL_links_666 : decode cL_links 666 = .ok (.iconst 2, 1) := by decide +kernel
theorem dL_links_667 : decode cL_links 667 = .ok (.iastore, 1) := by decide +kernel
theorem dL_links_668 : decode cL_links 668 = .ok (.dup, 1) := by decide +kernel
theorem dL_links_669 : decode cL_links 669 = .ok (.iconst 1, 1) := by decide +kernel
theorem dL_links_670 : decode cL_links 670 = .ok (.iconst 0, 1) := by decide +kernel
theorem dL_links_671 : decode cL_links 671 = .ok (.iastore, 1) := by decide +kernel
theorem dL_links_672 : decode cL_links 672 = .ok (.invokestatic 185, 3) := by decide +kernel
theorem dL_links_675 : decode cL_links 675 = .ok (.ldc2_w 313, 3) := by decide +kernel
theorem dL_links_678 : decode cL_links 678 = .ok (.lcmp, 1) := by decide +kernel
theorem dL_links_679 : decode cL_links 679 = .ok (.ifCond .eq 5, 3) := by decide +kernel
theorem dL_links_682 : decode cL_links 682 = .ok (.iconst 0, 1) := by decide +kernel
theorem dL_links_683 : decode cL_links 683 = .ok (.ireturn, 1) := by decide +kernel
theorem dL_links_684 : decode cL_links 684 = .ok (.iconst 3, 1) := by decide +kernel
theorem dL_links_685 : decode cL_links 685 = .ok (.istore_n 1, 1) := by decide +kernel
theorem dL_links_686 : decode cL_links 686 = .ok (.iload_n 1, 1) := by decide +kernel
theorem dL_links_687 : decode cL_links 687 = .ok (.bipush 6, 2) := by decide +kernel
theorem dL_links_689 : decode cL_links 689 = .ok (.if_icmp .ge 31, 3) := by decide +kernel
theorem dL_links_692 : decode cL_links 692 = .ok (.aload_n 0, 1) := by decide +kernel
theorem dL_links_693 : decode cL_links 693 = .ok (.bipush 75, 2) := by decide +kernel
theorem dL_links_695 : decode cL_links 695 = .ok (.iconst 1, 1) := by decide +kernel
theorem dL_links_696 : decode cL_links 696 = .ok (.newarray .int, 2) := by decide +kernel
theorem dL_links_698 : decode cL_links 698 = .ok (.dup, 1) := by decide +kernel
theorem dL_links_699 : decode cL_links 699 = .ok (.iconst 0, 1) := by decide +kernel
theorem dL_links_700 : decode cL_links 700 = .ok (.bipush 102, 2) := by decide +kernel
theorem dL_links_702 : decode cL_links 702 = .ok (.iastore, 1) := by decide +kernel
theorem dL_links_703 : decode cL_links 703 = .ok (.invokestatic 185, 3) := by decide +kernel
theorem dL_links_706 : decode cL_links 706 = .ok (.iload_n 1, 1) := by decide +kernel
theorem dL_links_707 : decode cL_links 707 = .ok (.i2l, 1) := by decide +kernel
theorem dL_links_708 : decode cL_links 708 = .ok (.lcmp, 1) := by decide +kernel
theorem dL_links_709 : decode cL_links 709 = .ok (.ifCond .eq 5, 3) := by decide +kernel
theorem dL_links_712 : decode cL_links 712 = .ok (.iconst 0, 1) := by decide +kernel
theorem dL_links_713 : decode cL_links 713 = .ok (.ireturn, 1) := by decide +kernel
theorem dL_links_714 : decode cL_links 714 = .ok (.iinc 1 1, 3) := by decide +kernel
theorem dL_links_717 : decode cL_links 717 = .ok (.goto (-31), 3) := by decide +kernel
theorem dL_links_720 : decode cL_links 720 = .ok (.iconst 0, 1) := by decide +kernel
theorem dL_links_721 : decode cL_links 721 = .ok (.istore_n 1, 1) := by decide +kernel
theorem dL_links_722 : decode cL_links 722 = .ok (.iload_n 1, 1) := by decide +kernel
theorem dL_links_723 : decode cL_links 723 = .ok (.bipush 8, 2) := by decide +kernel
theorem dL_links_725 : decode cL_links 725 = .ok (.if_icmp .ge 43, 3) := by decide +kernel
theorem dL_links_728 : decode cL_links 728 = .ok (.aload_n 0, 1) := by decide +kernel
theorem dL_links_729 : decode cL_links 729 = .ok (.bipush 76, 2) := by decide +kernel
theorem dL_links_731 : decode cL_links 731 = .ok (.iconst 3, 1) := by decide +kernel
theorem dL_links_732 : decode cL_links 732 = .ok (.newarray .int, 2) := by decide +kernel
theorem dL_links_734 : decode cL_links 734 = .ok (.dup, 1) := by decide +kernel
theorem dL_links_735 : decode cL_links 735 = .ok (.iconst 0, 1) := by decide +kernel
theorem dL_links_736 : decode cL_links 736 = .ok (.iconst 3, 1) := by decide +kernel
theorem dL_links_737 : decode cL_links 737 = .ok (.iastore, 1) := by decide +kernel
theorem dL_links_738 : decode cL_links 738 = .ok (.dup, 1) := by decide +kernel
theorem dL_links_739 : decode cL_links 739 = .ok (.iconst 1, 1) := by decide +kernel
theorem dL_links_740 : decode cL_links 740 = .ok (.bipush 99, 2) := by decide +kernel
theorem dL_links_742 : decode cL_links 742 = .ok (.iastore, 1) := by decide +kernel
theorem dL_links_743 : decode cL_links 743 = .ok (.dup, 1) := by decide +kernel
theorem dL_links_744 : decode cL_links 744 = .ok (.iconst 2, 1) := by decide +kernel
theorem dL_links_745 : decode cL_links 745 = .ok (.sipush 500, 3) := by decide +kernel
theorem dL_links_748 : decode cL_links 748 = .ok (.iastore, 1) := by decide +kernel
theorem dL_links_749 : decode cL_links 749 = .ok (.invokestatic 185, 3) := by decide +kernel
theorem dL_links_752 : decode cL_links 752 = .ok (.iload_n 1, 1) := by decide +kernel
theorem dL_links_753 : decode cL_links 753 = .ok (.iconst 1, 1) := by decide +kernel
theorem dL_links_754 : decode cL_links 754 = .ok (.iadd, 1) := by decide +kernel
theorem dL_links_755 : decode cL_links 755 = .ok (.i2l, 1) := by decide +kernel
theorem dL_links_756 : decode cL_links 756 = .ok (.lcmp, 1) := by decide +kernel
theorem dL_links_757 : decode cL_links 757 = .ok (.ifCond .eq 5, 3) := by decide +kernel
theorem dL_links_760 : decode cL_links 760 = .ok (.iconst 0, 1) := by decide +kernel
theorem dL_links_761 : decode cL_links 761 = .ok (.ireturn, 1) := by decide +kernel
theorem dL_links_762 : decode cL_links 762 = .ok (.iinc 1 1, 3) := by decide +kernel
theorem dL_links_765 : decode cL_links 765 = .ok (.goto (-43), 3) := by decide +kernel
theorem dL_links_768 : decode cL_links 768 = .ok (.aload_n 0, 1) := by decide +kernel
theorem dL_links_769 : decode cL_links 769 = .ok (.bipush 75, 2) := by decide +kernel
theorem dL_links_771 : decode cL_links 771 = .ok (.iconst 1, 1) := by decide +kernel
theorem dL_links_772 : decode cL_links 772 = .ok (.newarray .int, 2) := by decide +kernel
theorem dL_links_774 : decode cL_links 774 = .ok (.dup, 1) := by decide +kernel
theorem dL_links_775 : decode cL_links 775 = .ok (.iconst 0, 1) := by decide +kernel
theorem dL_links_776 : decode cL_links 776 = .ok (.bipush 102, 2) := by decide +kernel
theorem dL_links_778 : decode cL_links 778 = .ok (.iastore, 1) := by decide +kernel
theorem dL_links_779 : decode cL_links 779 = .ok (.invokestatic 185, 3) := by decide +kernel
theorem dL_links_782 : decode cL_links 782 = .ok (.ldc2_w 83, 3) := by decide +kernel
theorem dL_links_785 : decode cL_links 785 = .ok (.lcmp, 1) := by decide +kernel
theorem dL_links_786 : decode cL_links 786 = .ok (.ifCond .ne 95, 3) := by decide +kernel
theorem dL_links_789 : decode cL_links 789 = .ok (.aload_n 0, 1) := by decide +kernel
theorem dL_links_790 : decode cL_links 790 = .ok (.bipush 76, 2) := by decide +kernel
theorem dL_links_792 : decode cL_links 792 = .ok (.iconst 3, 1) := by decide +kernel
theorem dL_links_793 : decode cL_links 793 = .ok (.newarray .int, 2) := by decide +kernel
theorem dL_links_795 : decode cL_links 795 = .ok (.dup, 1) := by decide +kernel
theorem dL_links_796 : decode cL_links 796 = .ok (.iconst 0, 1) := by decide +kernel
theorem dL_links_797 : decode cL_links 797 = .ok (.iconst 3, 1) := by decide +kernel
theorem dL_links_798 : decode cL_links 798 = .ok (.iastore, 1) := by decide +kernel
theorem dL_links_799 : decode cL_links 799 = .ok (.dup, 1) := by decide +kernel
theorem dL_links_800 : decode cL_links 800 = .ok (.iconst 1, 1) := by decide +kernel
theorem dL_links_801 : decode cL_links 801 = .ok (.bipush 99, 2) := by decide +kernel
theorem dL_links_803 : decode cL_links 803 = .ok (.iastore, 1) := by decide +kernel
theorem dL_links_804 : decode cL_links 804 = .ok (.dup, 1) := by decide +kernel
theorem dL_links_805 : decode cL_links 805 = .ok (.iconst 2, 1) := by decide +kernel
theorem dL_links_806 : decode cL_links 806 = .ok (.sipush 500, 3) := by decide +kernel
theorem dL_links_809 : decode cL_links 809 = .ok (.iastore, 1) := by decide +kernel
theorem dL_links_810 : decode cL_links 810 = .ok (.invokestatic 185, 3) := by decide +kernel
theorem dL_links_813 : decode cL_links 813 = .ok (.ldc2_w 83, 3) := by decide +kernel
theorem dL_links_816 : decode cL_links 816 = .ok (.lcmp, 1) := by decide +kernel
theorem dL_links_817 : decode cL_links 817 = .ok (.ifCond .ne 64, 3) := by decide +kernel
theorem dL_links_820 : decode cL_links 820 = .ok (.aload_n 0, 1) := by decide +kernel
theorem dL_links_821 : decode cL_links 821 = .ok (.bipush 67, 2) := by decide +kernel
theorem dL_links_823 : decode cL_links 823 = .ok (.iconst 2, 1) := by decide +kernel
theorem dL_links_824 : decode cL_links 824 = .ok (.newarray .int, 2) := by decide +kernel
theorem dL_links_826 : decode cL_links 826 = .ok (.dup, 1) := by decide +kernel
theorem dL_links_827 : decode cL_links 827 = .ok (.iconst 0, 1) := by decide +kernel
theorem dL_links_828 : decode cL_links 828 = .ok (.iconst 3, 1) := by decide +kernel
theorem dL_links_829 : decode cL_links 829 = .ok (.iastore, 1) := by decide +kernel
theorem dL_links_830 : decode cL_links 830 = .ok (.dup, 1) := by decide +kernel
theorem dL_links_831 : decode cL_links 831 = .ok (.iconst 1, 1) := by decide +kernel
theorem dL_links_832 : decode cL_links 832 = .ok (.bipush 7, 2) := by decide +kernel
theorem dL_links_834 : decode cL_links 834 = .ok (.iastore, 1) := by decide +kernel
theorem dL_links_835 : decode cL_links 835 = .ok (.invokestatic 185, 3) := by decide +kernel
theorem dL_links_838 : decode cL_links 838 = .ok (.ldc2_w 321, 3) := by decide +kernel
theorem dL_links_841 : decode cL_links 841 = .ok (.lcmp, 1) := by decide +kernel
theorem dL_links_842 : decode cL_links 842 = .ok (.ifCond .ne 39, 3) := by decide +kernel
theorem dL_links_845 : decode cL_links 845 = .ok (.aload_n 0, 1) := by decide +kernel
theorem dL_links_846 : decode cL_links 846 = .ok (.bipush 87, 2) := by decide +kernel
theorem dL_links_848 : decode cL_links 848 = .ok (.iconst 2, 1) := by decide +kernel
theorem dL_links_849 : decode cL_links 849 = .ok (.newarray .int, 2) := by decide +kernel
theorem dL_links_851 : decode cL_links 851 = .ok (.dup, 1) := by decide +kernel
theorem dL_links_852 : decode cL_links 852 = .ok (.iconst 0, 1) := by decide +kernel
theorem dL_links_853 : decode cL_links 853 = .ok (.iconst 3, 1) := by decide +kernel
theorem dL_links_854 : decode cL_links 854 = .ok (.iastore, 1) := by decide +kernel
theorem dL_links_855 : decode cL_links 855 = .ok (.dup, 1) := by decide +kernel
theorem dL_links_856 : decode cL_links 856 = .ok (.iconst 1, 1) := by decide +kernel
theorem dL_links_857 : decode cL_links 857 = .ok (.bipush 8, 2) := by decide +kernel
theorem dL_links_859 : decode cL_links 859 = .ok (.iastore, 1) := by decide +kernel
theorem dL_links_860 : decode cL_links 860 = .ok (.invokestatic 185, 3) := by decide +kernel
theorem dL_links_863 : decode cL_links 863 = .ok (.ldc2_w 75, 3) := by decide +kernel
theorem dL_links_866 : decode cL_links 866 = .ok (.lcmp, 1) := by decide +kernel
theorem dL_links_867 : decode cL_links 867 = .ok (.ifCond .ne 14, 3) := by decide +kernel
theorem dL_links_870 : decode cL_links 870 = .ok (.aload_n 0, 1) := by decide +kernel
theorem dL_links_871 : decode cL_links 871 = .ok (.invokevirtual 181, 3) := by decide +kernel
theorem dL_links_874 : decode cL_links 874 = .ok (.ifCond .eq 7, 3) := by decide +kernel
theorem dL_links_877 : decode cL_links 877 = .ok (.iconst 1, 1) := by decide +kernel
theorem dL_links_878 : decode cL_links 878 = .ok (.goto 4, 3) := by decide +kernel
theorem dL_links_881 : decode cL_links 881 = .ok (.iconst 0, 1) := by decide +kernel
theorem dL_links_882 : decode cL_links 882 = .ok (.ireturn, 1) := by decide +kernel
